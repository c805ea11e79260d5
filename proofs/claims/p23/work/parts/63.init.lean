-- how both begin
section
variable {g : GT} {d ca sa : Nat} {M : MT} {pc : Nat} {lv : List (Nat × Value)} {st : List Value} {h : MH} {Q : RT → MH → Prop}
theorem J_newA {index ci N ca' sa' A : Nat} {fs : List Value} {h' : MH} (hd : decode M.2.1 pc = .ok (.new index, 3)) (hw : NW M.1.cls index ci N fs) (h1 : ca' + 1 ≤ ca) (h2 : sa' + N ≤ sa) (eA : A = h.1) (e : h' = (A + 1, hset h.2 A (oB ci fs))) (kk : J g d ca' sa' M (pc + 3) lv (.ref A :: st) h' Q) : J g d ca sa M pc lv st h Q := by
  subst eA
  subst e
  exact J_new hd hw h1 h2 kk
theorem J_newTA {index n ca' sa' A : Nat} {x : Int32} {h' : MH} (hd : decode M.2.1 pc = .ok (.anewarray index, 3)) (hw : Cond.classLink M.1.cls index "BeanGroves$Tree" ∈ lw_tbl) (hx : x = nI n) (hn : n < 100000) (h1 : ca' + 1 ≤ ca) (h2 : sa' + n ≤ sa) (eA : A = h.1) (e : h' = (A + 1, hset h.2 A (aT n (fun _ => none)))) (kk : J g d ca' sa' M (pc + 3) lv (.ref A :: st) h' Q) : J g d ca sa M pc lv (.int x :: st) h Q := by
  subst eA
  subst e
  exact J_newT hd hw hx hn h1 h2 kk
theorem J_newGA {index n ca' sa' A : Nat} {x : Int32} {h' : MH} (hd : decode M.2.1 pc = .ok (.anewarray index, 3)) (hw : Cond.classLink M.1.cls index "[I" ∈ lw_tbl) (hx : x = nI n) (hn : n < 100000) (h1 : ca' + 1 ≤ ca) (h2 : sa' + n ≤ sa) (eA : A = h.1) (e : h' = (A + 1, hset h.2 A (aG n (fun _ => none)))) (kk : J g d ca' sa' M (pc + 3) lv (.ref A :: st) h' Q) : J g d ca sa M pc lv (.int x :: st) h Q := by
  subst eA
  subst e
  exact J_newG hd hw hx hn h1 h2 kk
theorem J_cIB {M1 : MT} {index n a ca1 sa1 ca2 sa2 : Nat} {As : List Value} {P : MH → Prop} (hd : decode M.2.1 pc = .ok (.invokespecial index, 3)) (hM : MOK M1 n) (hl : Cond.methodLink M.1.cls index M1.1 ∈ lw_tbl) (hi : Cond.instanceMethod M1.1 ∈ lw_tbl) (hy : M1.1.name = "<init>") (hrt : M1.2.2.2.1 = none)
    (hn : As.length = n) (hlen : (lg_sl (.ref a :: As)).length ≤ M1.2.2.1) (hst : (st.map fun v => v.category).sum ≤ 8) (hj : J g d ca1 sa1 M1 0 (lv_args 0 (.ref a :: As)) [] h (RV P)) (h1 : ca1 + ca2 ≤ ca) (h2 : sa1 + sa2 ≤ sa)
    (kk : ∀ h', P h' → J g (d + 1) ca2 sa2 M (pc + 3) lv st h' Q) : J g (d + 1) ca sa M pc lv (As.reverse ++ .ref a :: st) h Q :=
  J_callI hd hM hl hi hy hrt hn hlen hst (fun E h' q => by cases q.1) hj h1 h2 (fun v h' q => by obtain ⟨q1, q2⟩ := q; cases q1; exact kk h' q2)
theorem J_cINB {M1 : MT} {host : String} {index n a ca1 sa1 ca2 sa2 : Nat} {As : List Value} {P : MH → Prop} (hd : decode M.2.1 pc = .ok (.invokespecial index, 3)) (hM : MOK M1 n) (hl : Cond.methodLinkNest M.1.cls index M1.1 host ∈ lw_tbl) (hi : Cond.instanceMethod M1.1 ∈ lw_tbl) (hy : M1.1.name = "<init>") (hrt : M1.2.2.2.1 = none)
    (hn : As.length = n) (hlen : (lg_sl (.ref a :: As)).length ≤ M1.2.2.1) (hst : (st.map fun v => v.category).sum ≤ 8) (hj : J g d ca1 sa1 M1 0 (lv_args 0 (.ref a :: As)) [] h (RV P)) (h1 : ca1 + ca2 ≤ ca) (h2 : sa1 + sa2 ≤ sa)
    (kk : ∀ h', P h' → J g (d + 1) ca2 sa2 M (pc + 3) lv st h' Q) : J g (d + 1) ca sa M pc lv (As.reverse ++ .ref a :: st) h Q :=
  J_callIN hd hM hl hi hy hrt hn hlen hst (fun E h' q => by cases q.1) hj h1 h2 (fun v h' q => by obtain ⟨q1, q2⟩ := q; cases q1; exact kk h' q2)
end
theorem hg_n {h h1 : MH} {z a N K j : Nat} (e : h1 = (z, hgrid h.2 a N K)) (hj : j < a) : h1.2 j = h.2 j := by
  rw [e]
  show (if j = a then _ else if a < j ∧ j ≤ a + N then _ else h.2 j) = _
  rw [if_neg (by omega), if_neg (by omega)]
theorem hg_o {h h1 : MH} {z a N K : Nat} (e : h1 = (z, hgrid h.2 a N K)) : h1.2 a = some (aG N (fun i => if i < N then some (a + 1 + i) else none)) := by
  rw [e]
  exact if_pos rfl
theorem hg_r {h h1 : MH} {z a N K j : Nat} (e : h1 = (z, hgrid h.2 a N K)) (h1' : a < j) (h2 : j ≤ a + N) : h1.2 j = some (aI K (fun _ => 0)) := by
  rw [e]
  show (if j = a then _ else if a < j ∧ j ≤ a + N then _ else h.2 j) = _
  rw [if_neg (by omega), if_pos ⟨h1', h2⟩]
theorem TA_oth {h h' : MH} {t : Nat} (k : ∀ i, t ≤ i → i ≤ t + 6 → h'.2 i = h.2 i) (hT : TA h t) : TA h' t := by
  obtain ⟨n, pa, le, cf, sf, gf, df, mf, rf, k0, k1, k2, k3, k4, k5, k6⟩ := hT
  exact ⟨n, pa, le, cf, sf, gf, df, mf, rf, (k _ (by omega) (by omega)).trans k0, (k _ (by omega) (by omega)).trans k1, (k _ (by omega) (by omega)).trans k2, (k _ (by omega) (by omega)).trans k3, (k _ (by omega) (by omega)).trans k4, (k _ (by omega) (by omega)).trans k5, (k _ (by omega) (by omega)).trans k6⟩
theorem BH_oth {h h' : MH} {β : BT} (k : ∀ i, 2 ≤ i → i ≤ 9 → h'.2 i = h.2 i) (hB : BH h β) : BH h' β := by
  obtain ⟨hW, mf, sf, tf, lf, b2, b3, bm, b7, b8, b9, r⟩ := hB
  exact ⟨hW, mf, sf, tf, lf, (k _ (by omega) (by omega)).trans b2, (k _ (by omega) (by omega)).trans b3, fun m hm => (k _ (by omega) (by omega)).trans (bm m hm), (k _ (by omega) (by omega)).trans b7, (k _ (by omega) (by omega)).trans b8, (k _ (by omega) (by omega)).trans b9, r⟩

set_option maxHeartbeats 2000000 in
set_option maxRecDepth 20000 in
theorem c_Tinit {g : GT} {d : Nat} {h : MH} {T : Nat} (hT : h.2 T = some (oB 1 [.null, .null, .null, .null, .null, .null, .int (nI (0)), .int (nI (0)), .int (nI (0))])) (hn : T + 1 = h.1) : J g d 6 234 mX1_init 0 (lv_args 0 [.ref T]) [] h (RV (fun h' => h'.1 = T + 7 ∧ (∀ i, i < T → h'.2 i = h.2 i) ∧ TA h' T)) := by
  refine J_aload_n (i := 0) (pc := 0) dX1_init_0 rfl rfl ?_
  refine J_obj (pc := 1) dX1_init_1 q2_224 (Nat.le_of_ble_eq_true rfl) ?_
  refine J_aload_n (i := 0) (pc := 4) dX1_init_4 rfl rfl ?_
  refine J_bipush (v := nI (39)) (pc := 5) dX1_init_5 rfl ?_
  obtain ⟨A_1, eA_1⟩ : ∃ z : Nat, z = h.1 := ⟨_, rfl⟩
  obtain ⟨h_2, eh_2⟩ : ∃ z : MH, z = (A_1 + 1, hset h.2 A_1 (aI (39) (fun _ => 0))) := ⟨_, rfl⟩
  refine J_newIA (A := A_1) (h' := h_2) (n := 39) (ca' := 5) (sa' := 195) (pc := 7) dX1_init_7 rfl (by decide) (by omega) (by omega) eA_1 eh_2 ?_
  have zh_2 : h_2.1 = A_1 + 1 := by rw [eh_2]
  have H_3 : h_2.2 (T) = some (oB 1 [.null, .null, .null, .null, .null, .null, .int (nI (0)), .int (nI (0)), .int (nI (0))]) := (ha_n eh_2 (by omega)).trans hT
  have H_4 : (∀ i, i < T → h_2.2 i = h.2 i) := (fun i i1 => (ha_n eh_2 (by omega)).trans ((fun i _ => rfl) i i1))
  have H_5 : h_2.2 (A_1) = some (aI (39) (fun _ => 0)) := ha_s eh_2
  refine J_putf (k := 0) (pc := 9) dX1_init_9 fpX1_init_9 (fun g => ⟨rfl, rfl⟩) H_3 (Nat.le_of_ble_eq_true rfl) ?_
  obtain ⟨h_6, eh_6⟩ : ∃ z : MH, z = (h_2.1, hset h_2.2 (T) (oB 1 [.ref (A_1), .null, .null, .null, .null, .null, .int (nI (0)), .int (nI (0)), .int (nI (0))])) := ⟨_, rfl⟩
  refine J_heq (h2 := h_6) eh_6 ?_
  have zh_6 : h_6.1 = h_2.1 := by rw [eh_6]
  have H_7 : h_6.2 (T) = some (oB 1 [.ref (A_1), .null, .null, .null, .null, .null, .int (nI (0)), .int (nI (0)), .int (nI (0))]) := hs_s eh_6
  have H_8 : (∀ i, i < T → h_6.2 i = h.2 i) := by rw [eh_6]; exact (fun i i1 => (hset_n (by omega)).trans (H_4 i i1))
  have H_9 : h_6.2 (A_1) = some (aI (39) ((fun _ => 0))) := (hs_n eh_6 (by omega)).trans H_5
  refine J_aload_n (i := 0) (pc := 12) dX1_init_12 rfl rfl ?_
  refine J_bipush (v := nI (39)) (pc := 13) dX1_init_13 rfl ?_
  obtain ⟨A_10, eA_10⟩ : ∃ z : Nat, z = h_6.1 := ⟨_, rfl⟩
  obtain ⟨h_11, eh_11⟩ : ∃ z : MH, z = (A_10 + 1, hset h_6.2 A_10 (aI (39) (fun _ => 0))) := ⟨_, rfl⟩
  refine J_newIA (A := A_10) (h' := h_11) (n := 39) (ca' := 4) (sa' := 156) (pc := 15) dX1_init_15 rfl (by decide) (by omega) (by omega) eA_10 eh_11 ?_
  have zh_11 : h_11.1 = A_10 + 1 := by rw [eh_11]
  have H_12 : h_11.2 (T) = some (oB 1 [.ref (A_1), .null, .null, .null, .null, .null, .int (nI (0)), .int (nI (0)), .int (nI (0))]) := (ha_n eh_11 (by omega)).trans H_7
  have H_13 : (∀ i, i < T → h_11.2 i = h.2 i) := (fun i i1 => (ha_n eh_11 (by omega)).trans (H_8 i i1))
  have H_14 : h_11.2 (A_1) = some (aI (39) ((fun _ => 0))) := (ha_n eh_11 (by omega)).trans H_9
  have H_15 : h_11.2 (A_10) = some (aI (39) (fun _ => 0)) := ha_s eh_11
  refine J_putf (k := 1) (pc := 17) dX1_init_17 fpX1_init_15 (fun g => ⟨rfl, rfl⟩) H_12 (Nat.le_of_ble_eq_true rfl) ?_
  obtain ⟨h_16, eh_16⟩ : ∃ z : MH, z = (h_11.1, hset h_11.2 (T) (oB 1 [.ref (A_1), .ref (A_10), .null, .null, .null, .null, .int (nI (0)), .int (nI (0)), .int (nI (0))])) := ⟨_, rfl⟩
  refine J_heq (h2 := h_16) eh_16 ?_
  have zh_16 : h_16.1 = h_11.1 := by rw [eh_16]
  have H_17 : h_16.2 (T) = some (oB 1 [.ref (A_1), .ref (A_10), .null, .null, .null, .null, .int (nI (0)), .int (nI (0)), .int (nI (0))]) := hs_s eh_16
  have H_18 : (∀ i, i < T → h_16.2 i = h.2 i) := by rw [eh_16]; exact (fun i i1 => (hset_n (by omega)).trans (H_13 i i1))
  have H_19 : h_16.2 (A_1) = some (aI (39) ((fun _ => 0))) := (hs_n eh_16 (by omega)).trans H_14
  have H_20 : h_16.2 (A_10) = some (aI (39) ((fun _ => 0))) := (hs_n eh_16 (by omega)).trans H_15
  refine J_aload_n (i := 0) (pc := 20) dX1_init_20 rfl rfl ?_
  refine J_bipush (v := nI (39)) (pc := 21) dX1_init_21 rfl ?_
  obtain ⟨A_21, eA_21⟩ : ∃ z : Nat, z = h_16.1 := ⟨_, rfl⟩
  obtain ⟨h_22, eh_22⟩ : ∃ z : MH, z = (A_21 + 1, hset h_16.2 A_21 (aI (39) (fun _ => 0))) := ⟨_, rfl⟩
  refine J_newIA (A := A_21) (h' := h_22) (n := 39) (ca' := 3) (sa' := 117) (pc := 23) dX1_init_23 rfl (by decide) (by omega) (by omega) eA_21 eh_22 ?_
  have zh_22 : h_22.1 = A_21 + 1 := by rw [eh_22]
  have H_23 : h_22.2 (T) = some (oB 1 [.ref (A_1), .ref (A_10), .null, .null, .null, .null, .int (nI (0)), .int (nI (0)), .int (nI (0))]) := (ha_n eh_22 (by omega)).trans H_17
  have H_24 : (∀ i, i < T → h_22.2 i = h.2 i) := (fun i i1 => (ha_n eh_22 (by omega)).trans (H_18 i i1))
  have H_25 : h_22.2 (A_1) = some (aI (39) ((fun _ => 0))) := (ha_n eh_22 (by omega)).trans H_19
  have H_26 : h_22.2 (A_10) = some (aI (39) ((fun _ => 0))) := (ha_n eh_22 (by omega)).trans H_20
  have H_27 : h_22.2 (A_21) = some (aI (39) (fun _ => 0)) := ha_s eh_22
  refine J_putf (k := 2) (pc := 25) dX1_init_25 fpX1_init_18 (fun g => ⟨rfl, rfl⟩) H_23 (Nat.le_of_ble_eq_true rfl) ?_
  obtain ⟨h_28, eh_28⟩ : ∃ z : MH, z = (h_22.1, hset h_22.2 (T) (oB 1 [.ref (A_1), .ref (A_10), .ref (A_21), .null, .null, .null, .int (nI (0)), .int (nI (0)), .int (nI (0))])) := ⟨_, rfl⟩
  refine J_heq (h2 := h_28) eh_28 ?_
  have zh_28 : h_28.1 = h_22.1 := by rw [eh_28]
  have H_29 : h_28.2 (T) = some (oB 1 [.ref (A_1), .ref (A_10), .ref (A_21), .null, .null, .null, .int (nI (0)), .int (nI (0)), .int (nI (0))]) := hs_s eh_28
  have H_30 : (∀ i, i < T → h_28.2 i = h.2 i) := by rw [eh_28]; exact (fun i i1 => (hset_n (by omega)).trans (H_24 i i1))
  have H_31 : h_28.2 (A_1) = some (aI (39) ((fun _ => 0))) := (hs_n eh_28 (by omega)).trans H_25
  have H_32 : h_28.2 (A_10) = some (aI (39) ((fun _ => 0))) := (hs_n eh_28 (by omega)).trans H_26
  have H_33 : h_28.2 (A_21) = some (aI (39) ((fun _ => 0))) := (hs_n eh_28 (by omega)).trans H_27
  refine J_aload_n (i := 0) (pc := 28) dX1_init_28 rfl rfl ?_
  refine J_bipush (v := nI (39)) (pc := 29) dX1_init_29 rfl ?_
  obtain ⟨A_34, eA_34⟩ : ∃ z : Nat, z = h_28.1 := ⟨_, rfl⟩
  obtain ⟨h_35, eh_35⟩ : ∃ z : MH, z = (A_34 + 1, hset h_28.2 A_34 (aI (39) (fun _ => 0))) := ⟨_, rfl⟩
  refine J_newIA (A := A_34) (h' := h_35) (n := 39) (ca' := 2) (sa' := 78) (pc := 31) dX1_init_31 rfl (by decide) (by omega) (by omega) eA_34 eh_35 ?_
  have zh_35 : h_35.1 = A_34 + 1 := by rw [eh_35]
  have H_36 : h_35.2 (T) = some (oB 1 [.ref (A_1), .ref (A_10), .ref (A_21), .null, .null, .null, .int (nI (0)), .int (nI (0)), .int (nI (0))]) := (ha_n eh_35 (by omega)).trans H_29
  have H_37 : (∀ i, i < T → h_35.2 i = h.2 i) := (fun i i1 => (ha_n eh_35 (by omega)).trans (H_30 i i1))
  have H_38 : h_35.2 (A_1) = some (aI (39) ((fun _ => 0))) := (ha_n eh_35 (by omega)).trans H_31
  have H_39 : h_35.2 (A_10) = some (aI (39) ((fun _ => 0))) := (ha_n eh_35 (by omega)).trans H_32
  have H_40 : h_35.2 (A_21) = some (aI (39) ((fun _ => 0))) := (ha_n eh_35 (by omega)).trans H_33
  have H_41 : h_35.2 (A_34) = some (aI (39) (fun _ => 0)) := ha_s eh_35
  refine J_putf (k := 3) (pc := 33) dX1_init_33 fpX1_init_21 (fun g => ⟨rfl, rfl⟩) H_36 (Nat.le_of_ble_eq_true rfl) ?_
  obtain ⟨h_42, eh_42⟩ : ∃ z : MH, z = (h_35.1, hset h_35.2 (T) (oB 1 [.ref (A_1), .ref (A_10), .ref (A_21), .ref (A_34), .null, .null, .int (nI (0)), .int (nI (0)), .int (nI (0))])) := ⟨_, rfl⟩
  refine J_heq (h2 := h_42) eh_42 ?_
  have zh_42 : h_42.1 = h_35.1 := by rw [eh_42]
  have H_43 : h_42.2 (T) = some (oB 1 [.ref (A_1), .ref (A_10), .ref (A_21), .ref (A_34), .null, .null, .int (nI (0)), .int (nI (0)), .int (nI (0))]) := hs_s eh_42
  have H_44 : (∀ i, i < T → h_42.2 i = h.2 i) := by rw [eh_42]; exact (fun i i1 => (hset_n (by omega)).trans (H_37 i i1))
  have H_45 : h_42.2 (A_1) = some (aI (39) ((fun _ => 0))) := (hs_n eh_42 (by omega)).trans H_38
  have H_46 : h_42.2 (A_10) = some (aI (39) ((fun _ => 0))) := (hs_n eh_42 (by omega)).trans H_39
  have H_47 : h_42.2 (A_21) = some (aI (39) ((fun _ => 0))) := (hs_n eh_42 (by omega)).trans H_40
  have H_48 : h_42.2 (A_34) = some (aI (39) ((fun _ => 0))) := (hs_n eh_42 (by omega)).trans H_41
  refine J_aload_n (i := 0) (pc := 36) dX1_init_36 rfl rfl ?_
  refine J_bipush (v := nI (39)) (pc := 37) dX1_init_37 rfl ?_
  obtain ⟨A_49, eA_49⟩ : ∃ z : Nat, z = h_42.1 := ⟨_, rfl⟩
  obtain ⟨h_50, eh_50⟩ : ∃ z : MH, z = (A_49 + 1, hset h_42.2 A_49 (aI (39) (fun _ => 0))) := ⟨_, rfl⟩
  refine J_newIA (A := A_49) (h' := h_50) (n := 39) (ca' := 1) (sa' := 39) (pc := 39) dX1_init_39 rfl (by decide) (by omega) (by omega) eA_49 eh_50 ?_
  have zh_50 : h_50.1 = A_49 + 1 := by rw [eh_50]
  have H_51 : h_50.2 (T) = some (oB 1 [.ref (A_1), .ref (A_10), .ref (A_21), .ref (A_34), .null, .null, .int (nI (0)), .int (nI (0)), .int (nI (0))]) := (ha_n eh_50 (by omega)).trans H_43
  have H_52 : (∀ i, i < T → h_50.2 i = h.2 i) := (fun i i1 => (ha_n eh_50 (by omega)).trans (H_44 i i1))
  have H_53 : h_50.2 (A_1) = some (aI (39) ((fun _ => 0))) := (ha_n eh_50 (by omega)).trans H_45
  have H_54 : h_50.2 (A_10) = some (aI (39) ((fun _ => 0))) := (ha_n eh_50 (by omega)).trans H_46
  have H_55 : h_50.2 (A_21) = some (aI (39) ((fun _ => 0))) := (ha_n eh_50 (by omega)).trans H_47
  have H_56 : h_50.2 (A_34) = some (aI (39) ((fun _ => 0))) := (ha_n eh_50 (by omega)).trans H_48
  have H_57 : h_50.2 (A_49) = some (aI (39) (fun _ => 0)) := ha_s eh_50
  refine J_putf (k := 4) (pc := 41) dX1_init_41 fpX1_init_24 (fun g => ⟨rfl, rfl⟩) H_51 (Nat.le_of_ble_eq_true rfl) ?_
  obtain ⟨h_58, eh_58⟩ : ∃ z : MH, z = (h_50.1, hset h_50.2 (T) (oB 1 [.ref (A_1), .ref (A_10), .ref (A_21), .ref (A_34), .ref (A_49), .null, .int (nI (0)), .int (nI (0)), .int (nI (0))])) := ⟨_, rfl⟩
  refine J_heq (h2 := h_58) eh_58 ?_
  have zh_58 : h_58.1 = h_50.1 := by rw [eh_58]
  have H_59 : h_58.2 (T) = some (oB 1 [.ref (A_1), .ref (A_10), .ref (A_21), .ref (A_34), .ref (A_49), .null, .int (nI (0)), .int (nI (0)), .int (nI (0))]) := hs_s eh_58
  have H_60 : (∀ i, i < T → h_58.2 i = h.2 i) := by rw [eh_58]; exact (fun i i1 => (hset_n (by omega)).trans (H_52 i i1))
  have H_61 : h_58.2 (A_1) = some (aI (39) ((fun _ => 0))) := (hs_n eh_58 (by omega)).trans H_53
  have H_62 : h_58.2 (A_10) = some (aI (39) ((fun _ => 0))) := (hs_n eh_58 (by omega)).trans H_54
  have H_63 : h_58.2 (A_21) = some (aI (39) ((fun _ => 0))) := (hs_n eh_58 (by omega)).trans H_55
  have H_64 : h_58.2 (A_34) = some (aI (39) ((fun _ => 0))) := (hs_n eh_58 (by omega)).trans H_56
  have H_65 : h_58.2 (A_49) = some (aI (39) ((fun _ => 0))) := (hs_n eh_58 (by omega)).trans H_57
  refine J_aload_n (i := 0) (pc := 44) dX1_init_44 rfl rfl ?_
  refine J_bipush (v := nI (39)) (pc := 45) dX1_init_45 rfl ?_
  obtain ⟨A_66, eA_66⟩ : ∃ z : Nat, z = h_58.1 := ⟨_, rfl⟩
  obtain ⟨h_67, eh_67⟩ : ∃ z : MH, z = (A_66 + 1, hset h_58.2 A_66 (aI (39) (fun _ => 0))) := ⟨_, rfl⟩
  refine J_newIA (A := A_66) (h' := h_67) (n := 39) (ca' := 0) (sa' := 0) (pc := 47) dX1_init_47 rfl (by decide) (by omega) (by omega) eA_66 eh_67 ?_
  have zh_67 : h_67.1 = A_66 + 1 := by rw [eh_67]
  have H_68 : h_67.2 (T) = some (oB 1 [.ref (A_1), .ref (A_10), .ref (A_21), .ref (A_34), .ref (A_49), .null, .int (nI (0)), .int (nI (0)), .int (nI (0))]) := (ha_n eh_67 (by omega)).trans H_59
  have H_69 : (∀ i, i < T → h_67.2 i = h.2 i) := (fun i i1 => (ha_n eh_67 (by omega)).trans (H_60 i i1))
  have H_70 : h_67.2 (A_1) = some (aI (39) ((fun _ => 0))) := (ha_n eh_67 (by omega)).trans H_61
  have H_71 : h_67.2 (A_10) = some (aI (39) ((fun _ => 0))) := (ha_n eh_67 (by omega)).trans H_62
  have H_72 : h_67.2 (A_21) = some (aI (39) ((fun _ => 0))) := (ha_n eh_67 (by omega)).trans H_63
  have H_73 : h_67.2 (A_34) = some (aI (39) ((fun _ => 0))) := (ha_n eh_67 (by omega)).trans H_64
  have H_74 : h_67.2 (A_49) = some (aI (39) ((fun _ => 0))) := (ha_n eh_67 (by omega)).trans H_65
  have H_75 : h_67.2 (A_66) = some (aI (39) (fun _ => 0)) := ha_s eh_67
  refine J_putf (k := 5) (pc := 49) dX1_init_49 fpX1_init_27 (fun g => ⟨rfl, rfl⟩) H_68 (Nat.le_of_ble_eq_true rfl) ?_
  obtain ⟨h_76, eh_76⟩ : ∃ z : MH, z = (h_67.1, hset h_67.2 (T) (oB 1 [.ref (A_1), .ref (A_10), .ref (A_21), .ref (A_34), .ref (A_49), .ref (A_66), .int (nI (0)), .int (nI (0)), .int (nI (0))])) := ⟨_, rfl⟩
  refine J_heq (h2 := h_76) eh_76 ?_
  have zh_76 : h_76.1 = h_67.1 := by rw [eh_76]
  have H_77 : h_76.2 (T) = some (oB 1 [.ref (A_1), .ref (A_10), .ref (A_21), .ref (A_34), .ref (A_49), .ref (A_66), .int (nI (0)), .int (nI (0)), .int (nI (0))]) := hs_s eh_76
  have H_78 : (∀ i, i < T → h_76.2 i = h.2 i) := by rw [eh_76]; exact (fun i i1 => (hset_n (by omega)).trans (H_69 i i1))
  have H_79 : h_76.2 (A_1) = some (aI (39) ((fun _ => 0))) := (hs_n eh_76 (by omega)).trans H_70
  have H_80 : h_76.2 (A_10) = some (aI (39) ((fun _ => 0))) := (hs_n eh_76 (by omega)).trans H_71
  have H_81 : h_76.2 (A_21) = some (aI (39) ((fun _ => 0))) := (hs_n eh_76 (by omega)).trans H_72
  have H_82 : h_76.2 (A_34) = some (aI (39) ((fun _ => 0))) := (hs_n eh_76 (by omega)).trans H_73
  have H_83 : h_76.2 (A_49) = some (aI (39) ((fun _ => 0))) := (hs_n eh_76 (by omega)).trans H_74
  have H_84 : h_76.2 (A_66) = some (aI (39) ((fun _ => 0))) := (hs_n eh_76 (by omega)).trans H_75
  refine J_aload_n (i := 0) (pc := 52) dX1_init_52 rfl rfl ?_
  refine J_iconst (v := nI (0)) (pc := 53) dX1_init_53 rfl ?_
  refine J_putf (k := 6) (pc := 54) dX1_init_54 fpX1_init_30 (fun g => ⟨rfl, rfl⟩) H_77 (Nat.le_of_ble_eq_true rfl) ?_
  obtain ⟨h_85, eh_85⟩ : ∃ z : MH, z = (h_76.1, hset h_76.2 (T) (oB 1 [.ref (A_1), .ref (A_10), .ref (A_21), .ref (A_34), .ref (A_49), .ref (A_66), .int (nI (0)), .int (nI (0)), .int (nI (0))])) := ⟨_, rfl⟩
  refine J_heq (h2 := h_85) eh_85 ?_
  have zh_85 : h_85.1 = h_76.1 := by rw [eh_85]
  have H_86 : h_85.2 (T) = some (oB 1 [.ref (A_1), .ref (A_10), .ref (A_21), .ref (A_34), .ref (A_49), .ref (A_66), .int (nI (0)), .int (nI (0)), .int (nI (0))]) := hs_s eh_85
  have H_87 : (∀ i, i < T → h_85.2 i = h.2 i) := by rw [eh_85]; exact (fun i i1 => (hset_n (by omega)).trans (H_78 i i1))
  have H_88 : h_85.2 (A_1) = some (aI (39) ((fun _ => 0))) := (hs_n eh_85 (by omega)).trans H_79
  have H_89 : h_85.2 (A_10) = some (aI (39) ((fun _ => 0))) := (hs_n eh_85 (by omega)).trans H_80
  have H_90 : h_85.2 (A_21) = some (aI (39) ((fun _ => 0))) := (hs_n eh_85 (by omega)).trans H_81
  have H_91 : h_85.2 (A_34) = some (aI (39) ((fun _ => 0))) := (hs_n eh_85 (by omega)).trans H_82
  have H_92 : h_85.2 (A_49) = some (aI (39) ((fun _ => 0))) := (hs_n eh_85 (by omega)).trans H_83
  have H_93 : h_85.2 (A_66) = some (aI (39) ((fun _ => 0))) := (hs_n eh_85 (by omega)).trans H_84
  refine J_aload_n (i := 0) (pc := 57) dX1_init_57 rfl rfl ?_
  refine J_iconst (v := nI (1)) (pc := 58) dX1_init_58 rfl ?_
  refine J_putf (k := 7) (pc := 59) dX1_init_59 fpX1_init_34 (fun g => ⟨rfl, rfl⟩) H_86 (Nat.le_of_ble_eq_true rfl) ?_
  obtain ⟨h_94, eh_94⟩ : ∃ z : MH, z = (h_85.1, hset h_85.2 (T) (oB 1 [.ref (A_1), .ref (A_10), .ref (A_21), .ref (A_34), .ref (A_49), .ref (A_66), .int (nI (0)), .int (nI (1)), .int (nI (0))])) := ⟨_, rfl⟩
  refine J_heq (h2 := h_94) eh_94 ?_
  have zh_94 : h_94.1 = h_85.1 := by rw [eh_94]
  have H_95 : h_94.2 (T) = some (oB 1 [.ref (A_1), .ref (A_10), .ref (A_21), .ref (A_34), .ref (A_49), .ref (A_66), .int (nI (0)), .int (nI (1)), .int (nI (0))]) := hs_s eh_94
  have H_96 : (∀ i, i < T → h_94.2 i = h.2 i) := by rw [eh_94]; exact (fun i i1 => (hset_n (by omega)).trans (H_87 i i1))
  have H_97 : h_94.2 (A_1) = some (aI (39) ((fun _ => 0))) := (hs_n eh_94 (by omega)).trans H_88
  have H_98 : h_94.2 (A_10) = some (aI (39) ((fun _ => 0))) := (hs_n eh_94 (by omega)).trans H_89
  have H_99 : h_94.2 (A_21) = some (aI (39) ((fun _ => 0))) := (hs_n eh_94 (by omega)).trans H_90
  have H_100 : h_94.2 (A_34) = some (aI (39) ((fun _ => 0))) := (hs_n eh_94 (by omega)).trans H_91
  have H_101 : h_94.2 (A_49) = some (aI (39) ((fun _ => 0))) := (hs_n eh_94 (by omega)).trans H_92
  have H_102 : h_94.2 (A_66) = some (aI (39) ((fun _ => 0))) := (hs_n eh_94 (by omega)).trans H_93
  refine J_aload_n (i := 0) (pc := 62) dX1_init_62 rfl rfl ?_
  refine J_iconst (v := (-1)) (pc := 63) dX1_init_63 rfl ?_
  refine J_putf (k := 8) (pc := 64) dX1_init_64 fpX1_init_37 (fun g => ⟨rfl, rfl⟩) H_95 (Nat.le_of_ble_eq_true rfl) ?_
  obtain ⟨h_103, eh_103⟩ : ∃ z : MH, z = (h_94.1, hset h_94.2 (T) (oB 1 [.ref (A_1), .ref (A_10), .ref (A_21), .ref (A_34), .ref (A_49), .ref (A_66), .int (nI (0)), .int (nI (1)), .int (-1)])) := ⟨_, rfl⟩
  refine J_heq (h2 := h_103) eh_103 ?_
  have zh_103 : h_103.1 = h_94.1 := by rw [eh_103]
  have H_104 : h_103.2 (T) = some (oB 1 [.ref (A_1), .ref (A_10), .ref (A_21), .ref (A_34), .ref (A_49), .ref (A_66), .int (nI (0)), .int (nI (1)), .int (-1)]) := hs_s eh_103
  have H_105 : (∀ i, i < T → h_103.2 i = h.2 i) := by rw [eh_103]; exact (fun i i1 => (hset_n (by omega)).trans (H_96 i i1))
  have H_106 : h_103.2 (A_1) = some (aI (39) ((fun _ => 0))) := (hs_n eh_103 (by omega)).trans H_97
  have H_107 : h_103.2 (A_10) = some (aI (39) ((fun _ => 0))) := (hs_n eh_103 (by omega)).trans H_98
  have H_108 : h_103.2 (A_21) = some (aI (39) ((fun _ => 0))) := (hs_n eh_103 (by omega)).trans H_99
  have H_109 : h_103.2 (A_34) = some (aI (39) ((fun _ => 0))) := (hs_n eh_103 (by omega)).trans H_100
  have H_110 : h_103.2 (A_49) = some (aI (39) ((fun _ => 0))) := (hs_n eh_103 (by omega)).trans H_101
  have H_111 : h_103.2 (A_66) = some (aI (39) ((fun _ => 0))) := (hs_n eh_103 (by omega)).trans H_102
  refine J_vret (pc := 67) dX1_init_67 rfl ?_
  have qa0 : A_1 = T + 1 := by omega
  subst qa0
  have qa1 : A_10 = T + 2 := by omega
  subst qa1
  have qa2 : A_21 = T + 3 := by omega
  subst qa2
  have qa3 : A_34 = T + 4 := by omega
  subst qa3
  have qa4 : A_49 = T + 5 := by omega
  subst qa4
  have qa5 : A_66 = T + 6 := by omega
  subst qa5
  exact ⟨rfl, by omega, H_105, _, _, _, _, _, _, _, _, _, H_104, H_106, H_107, H_108, H_109, H_110, H_111⟩

def β0 : BT := (0, 0, fun _ _ => 0, fun _ => 0)
set_option maxHeartbeats 2000000 in
set_option maxRecDepth 20000 in
theorem c_Binit {g : GT} {d : Nat} {h : MH} (hT : h.2 2 = some (oB 0 [.null, .null, .null, .null, .int (nI (0)), .int (nI (0))])) (hn : h.1 = 3) : J g d 7 239 mX0_init 0 (lv_args 0 [.ref 2]) [] h (RV (fun h' => h'.1 = 10 ∧ (∀ i, i < 2 → h'.2 i = h.2 i) ∧ BH h' β0)) := by
  refine J_aload_n (i := 0) (pc := 0) dX0_init_0 rfl rfl ?_
  refine J_obj (pc := 1) dX0_init_1 q2_196 (Nat.le_of_ble_eq_true rfl) ?_
  refine J_aload_n (i := 0) (pc := 4) dX0_init_4 rfl rfl ?_
  refine J_iconst (v := nI (3)) (pc := 5) dX0_init_5 rfl ?_
  refine J_bipush (v := nI (20)) (pc := 6) dX0_init_6 rfl ?_
  refine J_multi (N := 3) (K := 20) (ca' := 3) (sa' := 176) (pc := 8) dX0_init_8 q2_197 rfl rfl (by decide) (by decide) (by omega) (by omega) ?_
  rw [show h.1 = 3 by omega]
  obtain ⟨h_1, eh_1⟩ : ∃ z : MH, z = (3 + 1 + 3, hgrid h.2 3 3 20) := ⟨_, rfl⟩
  refine J_heq (h2 := h_1) eh_1 ?_
  have zh_1 : h_1.1 = 3 + 1 + 3 := by rw [eh_1]
  have H_2 : h_1.2 (2) = some (oB 0 [.null, .null, .null, .null, .int (nI (0)), .int (nI (0))]) := (hg_n eh_1 (by omega)).trans hT
  have H_3 : (∀ i, i < 2 → h_1.2 i = h.2 i) := (fun i i1 => (hg_n eh_1 (by omega)).trans ((fun i _ => rfl) i i1))
  have H_4 : h_1.2 3 = some (aG 3 (fun i => if i < 3 then some (3 + 1 + i) else none)) := hg_o eh_1
  have H_5 : h_1.2 4 = some (aI 20 (fun _ => 0)) := hg_r eh_1 (by decide) (by decide)
  have H_6 : h_1.2 5 = some (aI 20 (fun _ => 0)) := hg_r eh_1 (by decide) (by decide)
  have H_7 : h_1.2 6 = some (aI 20 (fun _ => 0)) := hg_r eh_1 (by decide) (by decide)
  refine J_putf (k := 0) (pc := 12) dX0_init_12 fpX0_init_11 (fun g => ⟨rfl, rfl⟩) H_2 (Nat.le_of_ble_eq_true rfl) ?_
  obtain ⟨h_8, eh_8⟩ : ∃ z : MH, z = (h_1.1, hset h_1.2 (2) (oB 0 [.ref (3), .null, .null, .null, .int (nI (0)), .int (nI (0))])) := ⟨_, rfl⟩
  refine J_heq (h2 := h_8) eh_8 ?_
  have zh_8 : h_8.1 = h_1.1 := by rw [eh_8]
  have H_9 : h_8.2 (2) = some (oB 0 [.ref (3), .null, .null, .null, .int (nI (0)), .int (nI (0))]) := hs_s eh_8
  have H_10 : (∀ i, i < 2 → h_8.2 i = h.2 i) := by rw [eh_8]; exact (fun i i1 => (hset_n (by omega)).trans (H_3 i i1))
  have H_11 : h_8.2 (3) = some (aG (3) ((fun i => if i < 3 then some (3 + 1 + i) else none))) := (hs_n eh_8 (by omega)).trans H_4
  have H_12 : h_8.2 (4) = some (aI (20) ((fun _ => 0))) := (hs_n eh_8 (by omega)).trans H_5
  have H_13 : h_8.2 (5) = some (aI (20) ((fun _ => 0))) := (hs_n eh_8 (by omega)).trans H_6
  have H_14 : h_8.2 (6) = some (aI (20) ((fun _ => 0))) := (hs_n eh_8 (by omega)).trans H_7
  refine J_aload_n (i := 0) (pc := 15) dX0_init_15 rfl rfl ?_
  refine J_bipush (v := nI (20)) (pc := 16) dX0_init_16 rfl ?_
  obtain ⟨A_15, eA_15⟩ : ∃ z : Nat, z = h_8.1 := ⟨_, rfl⟩
  obtain ⟨h_16, eh_16⟩ : ∃ z : MH, z = (A_15 + 1, hset h_8.2 A_15 (aI (20) (fun _ => 0))) := ⟨_, rfl⟩
  refine J_newIA (A := A_15) (h' := h_16) (n := 20) (ca' := 2) (sa' := 156) (pc := 18) dX0_init_18 rfl (by decide) (by omega) (by omega) eA_15 eh_16 ?_
  have zh_16 : h_16.1 = A_15 + 1 := by rw [eh_16]
  have H_17 : h_16.2 (2) = some (oB 0 [.ref (3), .null, .null, .null, .int (nI (0)), .int (nI (0))]) := (ha_n eh_16 (by omega)).trans H_9
  have H_18 : (∀ i, i < 2 → h_16.2 i = h.2 i) := (fun i i1 => (ha_n eh_16 (by omega)).trans (H_10 i i1))
  have H_19 : h_16.2 (3) = some (aG (3) ((fun i => if i < 3 then some (3 + 1 + i) else none))) := (ha_n eh_16 (by omega)).trans H_11
  have H_20 : h_16.2 (4) = some (aI (20) ((fun _ => 0))) := (ha_n eh_16 (by omega)).trans H_12
  have H_21 : h_16.2 (5) = some (aI (20) ((fun _ => 0))) := (ha_n eh_16 (by omega)).trans H_13
  have H_22 : h_16.2 (6) = some (aI (20) ((fun _ => 0))) := (ha_n eh_16 (by omega)).trans H_14
  have H_23 : h_16.2 (A_15) = some (aI (20) (fun _ => 0)) := ha_s eh_16
  refine J_putf (k := 1) (pc := 20) dX0_init_20 fpX0_init_16 (fun g => ⟨rfl, rfl⟩) H_17 (Nat.le_of_ble_eq_true rfl) ?_
  obtain ⟨h_24, eh_24⟩ : ∃ z : MH, z = (h_16.1, hset h_16.2 (2) (oB 0 [.ref (3), .ref (A_15), .null, .null, .int (nI (0)), .int (nI (0))])) := ⟨_, rfl⟩
  refine J_heq (h2 := h_24) eh_24 ?_
  have zh_24 : h_24.1 = h_16.1 := by rw [eh_24]
  have H_25 : h_24.2 (2) = some (oB 0 [.ref (3), .ref (A_15), .null, .null, .int (nI (0)), .int (nI (0))]) := hs_s eh_24
  have H_26 : (∀ i, i < 2 → h_24.2 i = h.2 i) := by rw [eh_24]; exact (fun i i1 => (hset_n (by omega)).trans (H_18 i i1))
  have H_27 : h_24.2 (3) = some (aG (3) ((fun i => if i < 3 then some (3 + 1 + i) else none))) := (hs_n eh_24 (by omega)).trans H_19
  have H_28 : h_24.2 (4) = some (aI (20) ((fun _ => 0))) := (hs_n eh_24 (by omega)).trans H_20
  have H_29 : h_24.2 (5) = some (aI (20) ((fun _ => 0))) := (hs_n eh_24 (by omega)).trans H_21
  have H_30 : h_24.2 (6) = some (aI (20) ((fun _ => 0))) := (hs_n eh_24 (by omega)).trans H_22
  have H_31 : h_24.2 (A_15) = some (aI (20) ((fun _ => 0))) := (hs_n eh_24 (by omega)).trans H_23
  refine J_aload_n (i := 0) (pc := 23) dX0_init_23 rfl rfl ?_
  refine J_iconst (v := nI (3)) (pc := 24) dX0_init_24 rfl ?_
  obtain ⟨A_32, eA_32⟩ : ∃ z : Nat, z = h_24.1 := ⟨_, rfl⟩
  obtain ⟨h_33, eh_33⟩ : ∃ z : MH, z = (A_32 + 1, hset h_24.2 A_32 (aI (3) (fun _ => 0))) := ⟨_, rfl⟩
  refine J_newIA (A := A_32) (h' := h_33) (n := 3) (ca' := 1) (sa' := 153) (pc := 25) dX0_init_25 rfl (by decide) (by omega) (by omega) eA_32 eh_33 ?_
  have zh_33 : h_33.1 = A_32 + 1 := by rw [eh_33]
  have H_34 : h_33.2 (2) = some (oB 0 [.ref (3), .ref (A_15), .null, .null, .int (nI (0)), .int (nI (0))]) := (ha_n eh_33 (by omega)).trans H_25
  have H_35 : (∀ i, i < 2 → h_33.2 i = h.2 i) := (fun i i1 => (ha_n eh_33 (by omega)).trans (H_26 i i1))
  have H_36 : h_33.2 (3) = some (aG (3) ((fun i => if i < 3 then some (3 + 1 + i) else none))) := (ha_n eh_33 (by omega)).trans H_27
  have H_37 : h_33.2 (4) = some (aI (20) ((fun _ => 0))) := (ha_n eh_33 (by omega)).trans H_28
  have H_38 : h_33.2 (5) = some (aI (20) ((fun _ => 0))) := (ha_n eh_33 (by omega)).trans H_29
  have H_39 : h_33.2 (6) = some (aI (20) ((fun _ => 0))) := (ha_n eh_33 (by omega)).trans H_30
  have H_40 : h_33.2 (A_15) = some (aI (20) ((fun _ => 0))) := (ha_n eh_33 (by omega)).trans H_31
  have H_41 : h_33.2 (A_32) = some (aI (3) (fun _ => 0)) := ha_s eh_33
  refine J_putf (k := 2) (pc := 27) dX0_init_27 fpX0_init_20 (fun g => ⟨rfl, rfl⟩) H_34 (Nat.le_of_ble_eq_true rfl) ?_
  obtain ⟨h_42, eh_42⟩ : ∃ z : MH, z = (h_33.1, hset h_33.2 (2) (oB 0 [.ref (3), .ref (A_15), .ref (A_32), .null, .int (nI (0)), .int (nI (0))])) := ⟨_, rfl⟩
  refine J_heq (h2 := h_42) eh_42 ?_
  have zh_42 : h_42.1 = h_33.1 := by rw [eh_42]
  have H_43 : h_42.2 (2) = some (oB 0 [.ref (3), .ref (A_15), .ref (A_32), .null, .int (nI (0)), .int (nI (0))]) := hs_s eh_42
  have H_44 : (∀ i, i < 2 → h_42.2 i = h.2 i) := by rw [eh_42]; exact (fun i i1 => (hset_n (by omega)).trans (H_35 i i1))
  have H_45 : h_42.2 (3) = some (aG (3) ((fun i => if i < 3 then some (3 + 1 + i) else none))) := (hs_n eh_42 (by omega)).trans H_36
  have H_46 : h_42.2 (4) = some (aI (20) ((fun _ => 0))) := (hs_n eh_42 (by omega)).trans H_37
  have H_47 : h_42.2 (5) = some (aI (20) ((fun _ => 0))) := (hs_n eh_42 (by omega)).trans H_38
  have H_48 : h_42.2 (6) = some (aI (20) ((fun _ => 0))) := (hs_n eh_42 (by omega)).trans H_39
  have H_49 : h_42.2 (A_15) = some (aI (20) ((fun _ => 0))) := (hs_n eh_42 (by omega)).trans H_40
  have H_50 : h_42.2 (A_32) = some (aI (3) ((fun _ => 0))) := (hs_n eh_42 (by omega)).trans H_41
  refine J_aload_n (i := 0) (pc := 30) dX0_init_30 rfl rfl ?_
  refine J_sipush (v := nI (153)) (pc := 31) dX0_init_31 rfl ?_
  obtain ⟨A_51, eA_51⟩ : ∃ z : Nat, z = h_42.1 := ⟨_, rfl⟩
  obtain ⟨h_52, eh_52⟩ : ∃ z : MH, z = (A_51 + 1, hset h_42.2 A_51 (aI (153) (fun _ => 0))) := ⟨_, rfl⟩
  refine J_newIA (A := A_51) (h' := h_52) (n := 153) (ca' := 0) (sa' := 0) (pc := 34) dX0_init_34 rfl (by decide) (by omega) (by omega) eA_51 eh_52 ?_
  have zh_52 : h_52.1 = A_51 + 1 := by rw [eh_52]
  have H_53 : h_52.2 (2) = some (oB 0 [.ref (3), .ref (A_15), .ref (A_32), .null, .int (nI (0)), .int (nI (0))]) := (ha_n eh_52 (by omega)).trans H_43
  have H_54 : (∀ i, i < 2 → h_52.2 i = h.2 i) := (fun i i1 => (ha_n eh_52 (by omega)).trans (H_44 i i1))
  have H_55 : h_52.2 (3) = some (aG (3) ((fun i => if i < 3 then some (3 + 1 + i) else none))) := (ha_n eh_52 (by omega)).trans H_45
  have H_56 : h_52.2 (4) = some (aI (20) ((fun _ => 0))) := (ha_n eh_52 (by omega)).trans H_46
  have H_57 : h_52.2 (5) = some (aI (20) ((fun _ => 0))) := (ha_n eh_52 (by omega)).trans H_47
  have H_58 : h_52.2 (6) = some (aI (20) ((fun _ => 0))) := (ha_n eh_52 (by omega)).trans H_48
  have H_59 : h_52.2 (A_15) = some (aI (20) ((fun _ => 0))) := (ha_n eh_52 (by omega)).trans H_49
  have H_60 : h_52.2 (A_32) = some (aI (3) ((fun _ => 0))) := (ha_n eh_52 (by omega)).trans H_50
  have H_61 : h_52.2 (A_51) = some (aI (153) (fun _ => 0)) := ha_s eh_52
  refine J_putf (k := 3) (pc := 36) dX0_init_36 fpX0_init_23 (fun g => ⟨rfl, rfl⟩) H_53 (Nat.le_of_ble_eq_true rfl) ?_
  obtain ⟨h_62, eh_62⟩ : ∃ z : MH, z = (h_52.1, hset h_52.2 (2) (oB 0 [.ref (3), .ref (A_15), .ref (A_32), .ref (A_51), .int (nI (0)), .int (nI (0))])) := ⟨_, rfl⟩
  refine J_heq (h2 := h_62) eh_62 ?_
  have zh_62 : h_62.1 = h_52.1 := by rw [eh_62]
  have H_63 : h_62.2 (2) = some (oB 0 [.ref (3), .ref (A_15), .ref (A_32), .ref (A_51), .int (nI (0)), .int (nI (0))]) := hs_s eh_62
  have H_64 : (∀ i, i < 2 → h_62.2 i = h.2 i) := by rw [eh_62]; exact (fun i i1 => (hset_n (by omega)).trans (H_54 i i1))
  have H_65 : h_62.2 (3) = some (aG (3) ((fun i => if i < 3 then some (3 + 1 + i) else none))) := (hs_n eh_62 (by omega)).trans H_55
  have H_66 : h_62.2 (4) = some (aI (20) ((fun _ => 0))) := (hs_n eh_62 (by omega)).trans H_56
  have H_67 : h_62.2 (5) = some (aI (20) ((fun _ => 0))) := (hs_n eh_62 (by omega)).trans H_57
  have H_68 : h_62.2 (6) = some (aI (20) ((fun _ => 0))) := (hs_n eh_62 (by omega)).trans H_58
  have H_69 : h_62.2 (A_15) = some (aI (20) ((fun _ => 0))) := (hs_n eh_62 (by omega)).trans H_59
  have H_70 : h_62.2 (A_32) = some (aI (3) ((fun _ => 0))) := (hs_n eh_62 (by omega)).trans H_60
  have H_71 : h_62.2 (A_51) = some (aI (153) ((fun _ => 0))) := (hs_n eh_62 (by omega)).trans H_61
  refine J_aload_n (i := 0) (pc := 39) dX0_init_39 rfl rfl ?_
  refine J_iconst (v := nI (0)) (pc := 40) dX0_init_40 rfl ?_
  refine J_putf (k := 4) (pc := 41) dX0_init_41 fpX0_init_26 (fun g => ⟨rfl, rfl⟩) H_63 (Nat.le_of_ble_eq_true rfl) ?_
  obtain ⟨h_72, eh_72⟩ : ∃ z : MH, z = (h_62.1, hset h_62.2 (2) (oB 0 [.ref (3), .ref (A_15), .ref (A_32), .ref (A_51), .int (nI (0)), .int (nI (0))])) := ⟨_, rfl⟩
  refine J_heq (h2 := h_72) eh_72 ?_
  have zh_72 : h_72.1 = h_62.1 := by rw [eh_72]
  have H_73 : h_72.2 (2) = some (oB 0 [.ref (3), .ref (A_15), .ref (A_32), .ref (A_51), .int (nI (0)), .int (nI (0))]) := hs_s eh_72
  have H_74 : (∀ i, i < 2 → h_72.2 i = h.2 i) := by rw [eh_72]; exact (fun i i1 => (hset_n (by omega)).trans (H_64 i i1))
  have H_75 : h_72.2 (3) = some (aG (3) ((fun i => if i < 3 then some (3 + 1 + i) else none))) := (hs_n eh_72 (by omega)).trans H_65
  have H_76 : h_72.2 (4) = some (aI (20) ((fun _ => 0))) := (hs_n eh_72 (by omega)).trans H_66
  have H_77 : h_72.2 (5) = some (aI (20) ((fun _ => 0))) := (hs_n eh_72 (by omega)).trans H_67
  have H_78 : h_72.2 (6) = some (aI (20) ((fun _ => 0))) := (hs_n eh_72 (by omega)).trans H_68
  have H_79 : h_72.2 (A_15) = some (aI (20) ((fun _ => 0))) := (hs_n eh_72 (by omega)).trans H_69
  have H_80 : h_72.2 (A_32) = some (aI (3) ((fun _ => 0))) := (hs_n eh_72 (by omega)).trans H_70
  have H_81 : h_72.2 (A_51) = some (aI (153) ((fun _ => 0))) := (hs_n eh_72 (by omega)).trans H_71
  refine J_aload_n (i := 0) (pc := 44) dX0_init_44 rfl rfl ?_
  refine J_iconst (v := nI (0)) (pc := 45) dX0_init_45 rfl ?_
  refine J_putf (k := 5) (pc := 46) dX0_init_46 fpX0_init_30 (fun g => ⟨rfl, rfl⟩) H_73 (Nat.le_of_ble_eq_true rfl) ?_
  obtain ⟨h_82, eh_82⟩ : ∃ z : MH, z = (h_72.1, hset h_72.2 (2) (oB 0 [.ref (3), .ref (A_15), .ref (A_32), .ref (A_51), .int (nI (0)), .int (nI (0))])) := ⟨_, rfl⟩
  refine J_heq (h2 := h_82) eh_82 ?_
  have zh_82 : h_82.1 = h_72.1 := by rw [eh_82]
  have H_83 : h_82.2 (2) = some (oB 0 [.ref (3), .ref (A_15), .ref (A_32), .ref (A_51), .int (nI (0)), .int (nI (0))]) := hs_s eh_82
  have H_84 : (∀ i, i < 2 → h_82.2 i = h.2 i) := by rw [eh_82]; exact (fun i i1 => (hset_n (by omega)).trans (H_74 i i1))
  have H_85 : h_82.2 (3) = some (aG (3) ((fun i => if i < 3 then some (3 + 1 + i) else none))) := (hs_n eh_82 (by omega)).trans H_75
  have H_86 : h_82.2 (4) = some (aI (20) ((fun _ => 0))) := (hs_n eh_82 (by omega)).trans H_76
  have H_87 : h_82.2 (5) = some (aI (20) ((fun _ => 0))) := (hs_n eh_82 (by omega)).trans H_77
  have H_88 : h_82.2 (6) = some (aI (20) ((fun _ => 0))) := (hs_n eh_82 (by omega)).trans H_78
  have H_89 : h_82.2 (A_15) = some (aI (20) ((fun _ => 0))) := (hs_n eh_82 (by omega)).trans H_79
  have H_90 : h_82.2 (A_32) = some (aI (3) ((fun _ => 0))) := (hs_n eh_82 (by omega)).trans H_80
  have H_91 : h_82.2 (A_51) = some (aI (153) ((fun _ => 0))) := (hs_n eh_82 (by omega)).trans H_81
  refine J_vret (pc := 49) dX0_init_49 rfl ?_
  have qa0 : A_15 = 7 := by omega
  subst qa0
  have qa1 : A_32 = 8 := by omega
  subst qa1
  have qa2 : A_51 = 9 := by omega
  subst qa2
  refine ⟨rfl, by omega, H_84, ⟨Nat.zero_le _, Nat.one_pos, fun m k hk => absurd hk (Nat.not_lt_zero k), fun k hk => absurd hk (Nat.not_lt_zero k)⟩, fun _ _ => 0, fun _ => 0, fun _ => 0, fun _ => 0, H_83, H_85, ?_, H_89, H_90, H_91, fun m k _ hk => absurd hk (Nat.not_lt_zero k), fun k hk => absurd hk (Nat.not_lt_zero k), fun s _ => rfl, fun m x _ _ => rfl⟩
  intro m hm
  obtain rfl | rfl | rfl : m = 0 ∨ m = 1 ∨ m = 2 := by omega
  · exact H_86
  · exact H_87
  · exact H_88
