-- the start of the grove and of the reference
def t0 : TR 5 := ((0, 0), none)
def σ0 : ST := (β0, (0, 3, 1), (fun _ => t0), (fun _ => 0), (fun _ => 0))
theorem TA_c {h : MH} {t : Nat} (hT : TA h t) : ∃ fs, h.2 t = some (.inr (1, fs)) := by
  obtain ⟨n, pa, le, cf, sf, gf, df, mf, rf, k0, _⟩ := hT
  exact ⟨_, k0⟩

set_option maxHeartbeats 2000000 in
set_option maxRecDepth 20000 in
theorem c_Xinit {g : GT} {d : Nat} {h : MH} (hT : h.2 1 = some (oB 2 [.null, .null, .null, .int (nI (0)), .int (nI (0)), .int (nI (0))])) (hn : h.1 = 2) : J g (d + 1) 51 1708 mX2_init 0 (lv_args 0 [.ref 1]) [] h (RV (fun h' => h'.1 = 53 ∧ (∀ i, i < 1 → h'.2 i = h.2 i) ∧ GH h' σ0)) := by
  refine J_aload_n (i := 0) (pc := 0) dX2_init_0 rfl rfl ?_
  refine J_obj (pc := 1) dX2_init_1 q2_191 (Nat.le_of_ble_eq_true rfl) ?_
  refine J_aload_n (i := 0) (pc := 4) dX2_init_4 rfl rfl ?_
  have eA_1 : (2 : Nat) = h.1 := by omega
  obtain ⟨h_2, eh_2⟩ : ∃ z : MH, z = (2 + 1, hset h.2 2 (oB 0 [.null, .null, .null, .null, .int (nI (0)), .int (nI (0))])) := ⟨_, rfl⟩
  refine J_newA (A := 2) (h' := h_2) (ca' := 50) (sa' := 1702) (pc := 5) dX2_init_5 nwX2_9 (by omega) (by omega) eA_1 eh_2 ?_
  have zh_2 : h_2.1 = 2 + 1 := by rw [eh_2]
  have H_3 : h_2.2 (1) = some (oB 2 [.null, .null, .null, .int (nI (0)), .int (nI (0)), .int (nI (0))]) := (ha_n eh_2 (by omega)).trans hT
  have H_4 : (∀ i, i < 1 → h_2.2 i = h.2 i) := (fun i i1 => (ha_n eh_2 (by omega)).trans ((fun i _ => rfl) i i1))
  have H_5 : h_2.2 (2) = some (oB 0 [.null, .null, .null, .null, .int (nI (0)), .int (nI (0))]) := ha_s eh_2
  refine J_dup (pc := 8) dX2_init_8 rfl ?_
  refine J_cINB (st := [.ref (2), .ref (1)]) (As := []) (ca1 := 7) (sa1 := 239) (ca2 := 43) (sa2 := 1463) (pc := 9) dX2_init_9 okX0_init q2_193 q2_194 rfl rfl rfl (Nat.le_of_ble_eq_true rfl) (Nat.le_of_ble_eq_true rfl) (c_Binit H_5 (by omega)) (by omega) (by omega) (fun h_6 q_7 => ?_)
  obtain ⟨zb, lb, kb⟩ := q_7
  have H_8 : h_6.2 (1) = some (oB 2 [.null, .null, .null, .int (nI (0)), .int (nI (0)), .int (nI (0))]) := (lb _ (by omega)).trans H_3
  have H_9 : (∀ i, i < 1 → h_6.2 i = h.2 i) := fun i i1 => (lb i (by omega)).trans (H_4 i i1)
  refine J_putf (k := 0) (pc := 12) dX2_init_12 fpX2_init_12 (fun g => ⟨rfl, rfl⟩) H_8 (Nat.le_of_ble_eq_true rfl) ?_
  obtain ⟨h_11, eh_11⟩ : ∃ z : MH, z = (h_6.1, hset h_6.2 (1) (oB 2 [.ref (2), .null, .null, .int (nI (0)), .int (nI (0)), .int (nI (0))])) := ⟨_, rfl⟩
  refine J_heq (h2 := h_11) eh_11 ?_
  have zh_11 : h_11.1 = h_6.1 := by rw [eh_11]
  have H_12 : h_11.2 (1) = some (oB 2 [.ref (2), .null, .null, .int (nI (0)), .int (nI (0)), .int (nI (0))]) := hs_s eh_11
  have H_13 : (∀ i, i < 1 → h_11.2 i = h.2 i) := by rw [eh_11]; exact (fun i i1 => (hset_n (by omega)).trans (H_9 i i1))
  have H_14 : BH h_11 β0 := by rw [eh_11]; exact BH_oth (fun i i1 i2 => hset_n (by omega)) kb
  refine J_aload_n (i := 0) (pc := 15) dX2_init_15 rfl rfl ?_
  refine J_iconst (v := nI (5)) (pc := 16) dX2_init_16 rfl ?_
  have eA_15 : (10 : Nat) = h_11.1 := by omega
  obtain ⟨h_16, eh_16⟩ : ∃ z : MH, z = (10 + 1, hset h_11.2 10 (aT (5) (fun _ => none))) := ⟨_, rfl⟩
  refine J_newTA (A := 10) (h' := h_16) (n := 5) (ca' := 42) (sa' := 1458) (pc := 17) dX2_init_17 q2_219 rfl (by decide) (by omega) (by omega) eA_15 eh_16 ?_
  have zh_16 : h_16.1 = 10 + 1 := by rw [eh_16]
  have H_17 : h_16.2 (1) = some (oB 2 [.ref (2), .null, .null, .int (nI (0)), .int (nI (0)), .int (nI (0))]) := (ha_n eh_16 (by omega)).trans H_12
  have H_18 : (∀ i, i < 1 → h_16.2 i = h.2 i) := (fun i i1 => (ha_n eh_16 (by omega)).trans (H_13 i i1))
  have H_19 : BH h_16 β0 := BH_oth (fun i i1 i2 => ha_n eh_16 (by omega)) H_14
  have H_20 : h_16.2 (10) = some (aT (5) (fun _ => none)) := ha_s eh_16
  refine J_putf (k := 1) (pc := 20) dX2_init_20 fpX2_init_18 (fun g => ⟨rfl, rfl⟩) H_17 (Nat.le_of_ble_eq_true rfl) ?_
  obtain ⟨h_21, eh_21⟩ : ∃ z : MH, z = (h_16.1, hset h_16.2 (1) (oB 2 [.ref (2), .ref (10), .null, .int (nI (0)), .int (nI (0)), .int (nI (0))])) := ⟨_, rfl⟩
  refine J_heq (h2 := h_21) eh_21 ?_
  have zh_21 : h_21.1 = h_16.1 := by rw [eh_21]
  have H_22 : h_21.2 (1) = some (oB 2 [.ref (2), .ref (10), .null, .int (nI (0)), .int (nI (0)), .int (nI (0))]) := hs_s eh_21
  have H_23 : (∀ i, i < 1 → h_21.2 i = h.2 i) := by rw [eh_21]; exact (fun i i1 => (hset_n (by omega)).trans (H_18 i i1))
  have H_24 : BH h_21 β0 := by rw [eh_21]; exact BH_oth (fun i i1 i2 => hset_n (by omega)) H_19
  have H_25 : h_21.2 (10) = some (aT (5) ((fun _ => none))) := (hs_n eh_21 (by omega)).trans H_20
  refine J_aload_n (i := 0) (pc := 23) dX2_init_23 rfl rfl ?_
  have eA_26 : (11 : Nat) = h_21.1 := by omega
  obtain ⟨h_27, eh_27⟩ : ∃ z : MH, z = (11 + 1, hset h_21.2 11 (oB 1 [.null, .null, .null, .null, .null, .null, .int (nI (0)), .int (nI (0)), .int (nI (0))])) := ⟨_, rfl⟩
  refine J_newA (A := 11) (h' := h_27) (ca' := 41) (sa' := 1449) (pc := 24) dX2_init_24 nwX2_16 (by omega) (by omega) eA_26 eh_27 ?_
  have zh_27 : h_27.1 = 11 + 1 := by rw [eh_27]
  have H_28 : h_27.2 (1) = some (oB 2 [.ref (2), .ref (10), .null, .int (nI (0)), .int (nI (0)), .int (nI (0))]) := (ha_n eh_27 (by omega)).trans H_22
  have H_29 : (∀ i, i < 1 → h_27.2 i = h.2 i) := (fun i i1 => (ha_n eh_27 (by omega)).trans (H_23 i i1))
  have H_30 : BH h_27 β0 := BH_oth (fun i i1 i2 => ha_n eh_27 (by omega)) H_24
  have H_31 : h_27.2 (10) = some (aT (5) ((fun _ => none))) := (ha_n eh_27 (by omega)).trans H_25
  have H_32 : h_27.2 (11) = some (oB 1 [.null, .null, .null, .null, .null, .null, .int (nI (0)), .int (nI (0)), .int (nI (0))]) := ha_s eh_27
  refine J_dup (pc := 27) dX2_init_27 rfl ?_
  refine J_cINB (st := [.ref (11), .ref (1)]) (As := []) (ca1 := 6) (sa1 := 234) (ca2 := 35) (sa2 := 1215) (pc := 28) dX2_init_28 okX1_init q2_221 q2_222 rfl rfl rfl (Nat.le_of_ble_eq_true rfl) (Nat.le_of_ble_eq_true rfl) (c_Tinit H_32 (by omega)) (by omega) (by omega) (fun h_33 q_34 => ?_)
  obtain ⟨zt11, lt11, kt11⟩ := q_34
  have H_35 : h_33.2 (1) = some (oB 2 [.ref (2), .ref (10), .null, .int (nI (0)), .int (nI (0)), .int (nI (0))]) := (lt11 _ (by omega)).trans H_28
  have H_36 : (∀ i, i < 1 → h_33.2 i = h.2 i) := fun i i1 => (lt11 i (by omega)).trans (H_29 i i1)
  have H_37 : BH h_33 β0 := BH_oth (fun i i1 i2 => lt11 i (by omega)) H_30
  have H_38 : h_33.2 (10) = some (aT (5) ((fun _ => none))) := (lt11 _ (by omega)).trans H_31
  obtain ⟨ft11, rt11⟩ := TA_c kt11
  refine J_putf (k := 2) (pc := 31) dX2_init_31 fpX2_init_23 (fun g => ⟨rfl, rfl⟩) H_35 (Nat.le_of_ble_eq_true rfl) ?_
  obtain ⟨h_40, eh_40⟩ : ∃ z : MH, z = (h_33.1, hset h_33.2 (1) (oB 2 [.ref (2), .ref (10), .ref (11), .int (nI (0)), .int (nI (0)), .int (nI (0))])) := ⟨_, rfl⟩
  refine J_heq (h2 := h_40) eh_40 ?_
  have zh_40 : h_40.1 = h_33.1 := by rw [eh_40]
  have H_41 : h_40.2 (1) = some (oB 2 [.ref (2), .ref (10), .ref (11), .int (nI (0)), .int (nI (0)), .int (nI (0))]) := hs_s eh_40
  have H_42 : (∀ i, i < 1 → h_40.2 i = h.2 i) := by rw [eh_40]; exact (fun i i1 => (hset_n (by omega)).trans (H_36 i i1))
  have H_43 : BH h_40 β0 := by rw [eh_40]; exact BH_oth (fun i i1 i2 => hset_n (by omega)) H_37
  have H_44 : h_40.2 (10) = some (aT (5) ((fun _ => none))) := (hs_n eh_40 (by omega)).trans H_38
  have H_45 : TA h_40 11 := by rw [eh_40]; exact TA_oth (fun i i1 i2 => hset_n (by omega)) kt11
  have H_46 : h_40.2 (11) = some (.inr (1, ft11)) := (hs_n eh_40 (by omega)).trans rt11
  refine J_aload_n (i := 0) (pc := 34) dX2_init_34 rfl rfl ?_
  refine J_iconst (v := nI (0)) (pc := 35) dX2_init_35 rfl ?_
  refine J_putf (k := 3) (pc := 36) dX2_init_36 fpX2_init_27 (fun g => ⟨rfl, rfl⟩) H_41 (Nat.le_of_ble_eq_true rfl) ?_
  obtain ⟨h_47, eh_47⟩ : ∃ z : MH, z = (h_40.1, hset h_40.2 (1) (oB 2 [.ref (2), .ref (10), .ref (11), .int (nI (0)), .int (nI (0)), .int (nI (0))])) := ⟨_, rfl⟩
  refine J_heq (h2 := h_47) eh_47 ?_
  have zh_47 : h_47.1 = h_40.1 := by rw [eh_47]
  have H_48 : h_47.2 (1) = some (oB 2 [.ref (2), .ref (10), .ref (11), .int (nI (0)), .int (nI (0)), .int (nI (0))]) := hs_s eh_47
  have H_49 : (∀ i, i < 1 → h_47.2 i = h.2 i) := by rw [eh_47]; exact (fun i i1 => (hset_n (by omega)).trans (H_42 i i1))
  have H_50 : BH h_47 β0 := by rw [eh_47]; exact BH_oth (fun i i1 i2 => hset_n (by omega)) H_43
  have H_51 : h_47.2 (10) = some (aT (5) ((fun _ => none))) := (hs_n eh_47 (by omega)).trans H_44
  have H_52 : TA h_47 11 := by rw [eh_47]; exact TA_oth (fun i i1 i2 => hset_n (by omega)) H_45
  have H_53 : h_47.2 (11) = some (.inr (1, ft11)) := (hs_n eh_47 (by omega)).trans H_46
  refine J_aload_n (i := 0) (pc := 39) dX2_init_39 rfl rfl ?_
  refine J_iconst (v := nI (3)) (pc := 40) dX2_init_40 rfl ?_
  refine J_putf (k := 4) (pc := 41) dX2_init_41 fpX2_init_31 (fun g => ⟨rfl, rfl⟩) H_48 (Nat.le_of_ble_eq_true rfl) ?_
  obtain ⟨h_54, eh_54⟩ : ∃ z : MH, z = (h_47.1, hset h_47.2 (1) (oB 2 [.ref (2), .ref (10), .ref (11), .int (nI (0)), .int (nI (3)), .int (nI (0))])) := ⟨_, rfl⟩
  refine J_heq (h2 := h_54) eh_54 ?_
  have zh_54 : h_54.1 = h_47.1 := by rw [eh_54]
  have H_55 : h_54.2 (1) = some (oB 2 [.ref (2), .ref (10), .ref (11), .int (nI (0)), .int (nI (3)), .int (nI (0))]) := hs_s eh_54
  have H_56 : (∀ i, i < 1 → h_54.2 i = h.2 i) := by rw [eh_54]; exact (fun i i1 => (hset_n (by omega)).trans (H_49 i i1))
  have H_57 : BH h_54 β0 := by rw [eh_54]; exact BH_oth (fun i i1 i2 => hset_n (by omega)) H_50
  have H_58 : h_54.2 (10) = some (aT (5) ((fun _ => none))) := (hs_n eh_54 (by omega)).trans H_51
  have H_59 : TA h_54 11 := by rw [eh_54]; exact TA_oth (fun i i1 i2 => hset_n (by omega)) H_52
  have H_60 : h_54.2 (11) = some (.inr (1, ft11)) := (hs_n eh_54 (by omega)).trans H_53
  refine J_aload_n (i := 0) (pc := 44) dX2_init_44 rfl rfl ?_
  refine J_iconst (v := nI (1)) (pc := 45) dX2_init_45 rfl ?_
  refine J_putf (k := 5) (pc := 46) dX2_init_46 fpX2_init_34 (fun g => ⟨rfl, rfl⟩) H_55 (Nat.le_of_ble_eq_true rfl) ?_
  obtain ⟨h_61, eh_61⟩ : ∃ z : MH, z = (h_54.1, hset h_54.2 (1) (oB 2 [.ref (2), .ref (10), .ref (11), .int (nI (0)), .int (nI (3)), .int (nI (1))])) := ⟨_, rfl⟩
  refine J_heq (h2 := h_61) eh_61 ?_
  have zh_61 : h_61.1 = h_54.1 := by rw [eh_61]
  have H_62 : h_61.2 (1) = some (oB 2 [.ref (2), .ref (10), .ref (11), .int (nI (0)), .int (nI (3)), .int (nI (1))]) := hs_s eh_61
  have H_63 : (∀ i, i < 1 → h_61.2 i = h.2 i) := by rw [eh_61]; exact (fun i i1 => (hset_n (by omega)).trans (H_56 i i1))
  have H_64 : BH h_61 β0 := by rw [eh_61]; exact BH_oth (fun i i1 i2 => hset_n (by omega)) H_57
  have H_65 : h_61.2 (10) = some (aT (5) ((fun _ => none))) := (hs_n eh_61 (by omega)).trans H_58
  have H_66 : TA h_61 11 := by rw [eh_61]; exact TA_oth (fun i i1 i2 => hset_n (by omega)) H_59
  have H_67 : h_61.2 (11) = some (.inr (1, ft11)) := (hs_n eh_61 (by omega)).trans H_60
  refine J_iconst (v := nI (0)) (pc := 49) dX2_init_49 rfl ?_
  refine J_istore_n (i := 1) (lv' := [(1, .int (nI (0))), (0, .ref (1))]) (pc := 50) dX2_init_50 rfl (by decide) rfl ?_
  refine J_iload_n (i := 1) (pc := 51) dX2_init_51 rfl rfl ?_
  refine J_iconst (v := nI (5)) (pc := 52) dX2_init_52 rfl ?_
  refine J_icmp_geN (tgt := 75) (pc := 53) dX2_init_53 (by decide) (by omega) (by omega) (fun c53 => by exfalso; first | omega | simp_all) (fun c53 => ?_)
  refine J_aload_n (i := 0) (pc := 56) dX2_init_56 rfl rfl ?_
  refine J_getf (k := 1) (pc := 57) dX2_init_57 flX2_18 H_62 rfl ?_
  refine J_iload_n (i := 1) (pc := 60) dX2_init_60 rfl rfl ?_
  have eA_68 : (18 : Nat) = h_61.1 := by omega
  obtain ⟨h_69, eh_69⟩ : ∃ z : MH, z = (18 + 1, hset h_61.2 18 (oB 1 [.null, .null, .null, .null, .null, .null, .int (nI (0)), .int (nI (0)), .int (nI (0))])) := ⟨_, rfl⟩
  refine J_newA (A := 18) (h' := h_69) (ca' := 34) (sa' := 1206) (pc := 61) dX2_init_61 nwX2_16 (by omega) (by omega) eA_68 eh_69 ?_
  have zh_69 : h_69.1 = 18 + 1 := by rw [eh_69]
  have H_70 : h_69.2 (1) = some (oB 2 [.ref (2), .ref (10), .ref (11), .int (nI (0)), .int (nI (3)), .int (nI (1))]) := (ha_n eh_69 (by omega)).trans H_62
  have H_71 : (∀ i, i < 1 → h_69.2 i = h.2 i) := (fun i i1 => (ha_n eh_69 (by omega)).trans (H_63 i i1))
  have H_72 : BH h_69 β0 := BH_oth (fun i i1 i2 => ha_n eh_69 (by omega)) H_64
  have H_73 : h_69.2 (10) = some (aT (5) ((fun _ => none))) := (ha_n eh_69 (by omega)).trans H_65
  have H_74 : TA h_69 11 := TA_oth (fun i i1 i2 => ha_n eh_69 (by omega)) H_66
  have H_75 : h_69.2 (11) = some (.inr (1, ft11)) := (ha_n eh_69 (by omega)).trans H_67
  have H_76 : h_69.2 (18) = some (oB 1 [.null, .null, .null, .null, .null, .null, .int (nI (0)), .int (nI (0)), .int (nI (0))]) := ha_s eh_69
  refine J_dup (pc := 64) dX2_init_64 rfl ?_
  refine J_cINB (st := [.ref (18), .int (nI (0)), .ref (10)]) (As := []) (ca1 := 6) (sa1 := 234) (ca2 := 28) (sa2 := 972) (pc := 65) dX2_init_65 okX1_init q2_221 q2_222 rfl rfl rfl (Nat.le_of_ble_eq_true rfl) (Nat.le_of_ble_eq_true rfl) (c_Tinit H_76 (by omega)) (by omega) (by omega) (fun h_77 q_78 => ?_)
  obtain ⟨zt18, lt18, kt18⟩ := q_78
  have H_79 : h_77.2 (1) = some (oB 2 [.ref (2), .ref (10), .ref (11), .int (nI (0)), .int (nI (3)), .int (nI (1))]) := (lt18 _ (by omega)).trans H_70
  have H_80 : (∀ i, i < 1 → h_77.2 i = h.2 i) := fun i i1 => (lt18 i (by omega)).trans (H_71 i i1)
  have H_81 : BH h_77 β0 := BH_oth (fun i i1 i2 => lt18 i (by omega)) H_72
  have H_82 : h_77.2 (10) = some (aT (5) ((fun _ => none))) := (lt18 _ (by omega)).trans H_73
  have H_83 : TA h_77 11 := TA_oth (fun i i1 i2 => lt18 i (by omega)) H_74
  have H_84 : h_77.2 (11) = some (.inr (1, ft11)) := (lt18 _ (by omega)).trans H_75
  obtain ⟨ft18, rt18⟩ := TA_c kt18
  refine J_astT (j := 0) (pc := 68) dX2_init_68 H_82 rt18 rfl (by omega) (by omega) ?_
  obtain ⟨h_86, eh_86⟩ : ∃ z : MH, z = (h_77.1, hset h_77.2 (10) (aT (5) (va_up ((fun _ => none)) (0) (some (18))))) := ⟨_, rfl⟩
  refine J_heq (h2 := h_86) eh_86 ?_
  have zh_86 : h_86.1 = h_77.1 := by rw [eh_86]
  have H_87 : h_86.2 (1) = some (oB 2 [.ref (2), .ref (10), .ref (11), .int (nI (0)), .int (nI (3)), .int (nI (1))]) := (hs_n eh_86 (by omega)).trans H_79
  have H_88 : (∀ i, i < 1 → h_86.2 i = h.2 i) := by rw [eh_86]; exact (fun i i1 => (hset_n (by omega)).trans (H_80 i i1))
  have H_89 : BH h_86 β0 := by rw [eh_86]; exact BH_oth (fun i i1 i2 => hset_n (by omega)) H_81
  have H_90 : h_86.2 (10) = some (aT (5) (va_up ((fun _ => none)) (0) (some (18)))) := hs_s eh_86
  have H_91 : TA h_86 11 := by rw [eh_86]; exact TA_oth (fun i i1 i2 => hset_n (by omega)) H_83
  have H_92 : h_86.2 (11) = some (.inr (1, ft11)) := (hs_n eh_86 (by omega)).trans H_84
  have H_93 : TA h_86 18 := by rw [eh_86]; exact TA_oth (fun i i1 i2 => hset_n (by omega)) kt18
  have H_94 : h_86.2 (18) = some (.inr (1, ft18)) := (hs_n eh_86 (by omega)).trans rt18
  refine J_iinc (i := 1) (v := nI (1)) (lv' := [(1, .int (nI (1))), (0, .ref (1))]) (pc := 69) dX2_init_69 rfl rfl (by decide) rfl ?_
  refine J_goto (tgt := 51) (pc := 72) dX2_init_72 (by decide) ?_
  refine J_iload_n (i := 1) (pc := 51) dX2_init_51 rfl rfl ?_
  refine J_iconst (v := nI (5)) (pc := 52) dX2_init_52 rfl ?_
  refine J_icmp_geN (tgt := 75) (pc := 53) dX2_init_53 (by decide) (by omega) (by omega) (fun c53 => by exfalso; first | omega | simp_all) (fun c53 => ?_)
  refine J_aload_n (i := 0) (pc := 56) dX2_init_56 rfl rfl ?_
  refine J_getf (k := 1) (pc := 57) dX2_init_57 flX2_18 H_87 rfl ?_
  refine J_iload_n (i := 1) (pc := 60) dX2_init_60 rfl rfl ?_
  have eA_95 : (25 : Nat) = h_86.1 := by omega
  obtain ⟨h_96, eh_96⟩ : ∃ z : MH, z = (25 + 1, hset h_86.2 25 (oB 1 [.null, .null, .null, .null, .null, .null, .int (nI (0)), .int (nI (0)), .int (nI (0))])) := ⟨_, rfl⟩
  refine J_newA (A := 25) (h' := h_96) (ca' := 27) (sa' := 963) (pc := 61) dX2_init_61 nwX2_16 (by omega) (by omega) eA_95 eh_96 ?_
  have zh_96 : h_96.1 = 25 + 1 := by rw [eh_96]
  have H_97 : h_96.2 (1) = some (oB 2 [.ref (2), .ref (10), .ref (11), .int (nI (0)), .int (nI (3)), .int (nI (1))]) := (ha_n eh_96 (by omega)).trans H_87
  have H_98 : (∀ i, i < 1 → h_96.2 i = h.2 i) := (fun i i1 => (ha_n eh_96 (by omega)).trans (H_88 i i1))
  have H_99 : BH h_96 β0 := BH_oth (fun i i1 i2 => ha_n eh_96 (by omega)) H_89
  have H_100 : h_96.2 (10) = some (aT (5) (va_up ((fun _ => none)) (0) (some (18)))) := (ha_n eh_96 (by omega)).trans H_90
  have H_101 : TA h_96 11 := TA_oth (fun i i1 i2 => ha_n eh_96 (by omega)) H_91
  have H_102 : h_96.2 (11) = some (.inr (1, ft11)) := (ha_n eh_96 (by omega)).trans H_92
  have H_103 : TA h_96 18 := TA_oth (fun i i1 i2 => ha_n eh_96 (by omega)) H_93
  have H_104 : h_96.2 (18) = some (.inr (1, ft18)) := (ha_n eh_96 (by omega)).trans H_94
  have H_105 : h_96.2 (25) = some (oB 1 [.null, .null, .null, .null, .null, .null, .int (nI (0)), .int (nI (0)), .int (nI (0))]) := ha_s eh_96
  refine J_dup (pc := 64) dX2_init_64 rfl ?_
  refine J_cINB (st := [.ref (25), .int (nI (1)), .ref (10)]) (As := []) (ca1 := 6) (sa1 := 234) (ca2 := 21) (sa2 := 729) (pc := 65) dX2_init_65 okX1_init q2_221 q2_222 rfl rfl rfl (Nat.le_of_ble_eq_true rfl) (Nat.le_of_ble_eq_true rfl) (c_Tinit H_105 (by omega)) (by omega) (by omega) (fun h_106 q_107 => ?_)
  obtain ⟨zt25, lt25, kt25⟩ := q_107
  have H_108 : h_106.2 (1) = some (oB 2 [.ref (2), .ref (10), .ref (11), .int (nI (0)), .int (nI (3)), .int (nI (1))]) := (lt25 _ (by omega)).trans H_97
  have H_109 : (∀ i, i < 1 → h_106.2 i = h.2 i) := fun i i1 => (lt25 i (by omega)).trans (H_98 i i1)
  have H_110 : BH h_106 β0 := BH_oth (fun i i1 i2 => lt25 i (by omega)) H_99
  have H_111 : h_106.2 (10) = some (aT (5) (va_up ((fun _ => none)) (0) (some (18)))) := (lt25 _ (by omega)).trans H_100
  have H_112 : TA h_106 11 := TA_oth (fun i i1 i2 => lt25 i (by omega)) H_101
  have H_113 : h_106.2 (11) = some (.inr (1, ft11)) := (lt25 _ (by omega)).trans H_102
  have H_114 : TA h_106 18 := TA_oth (fun i i1 i2 => lt25 i (by omega)) H_103
  have H_115 : h_106.2 (18) = some (.inr (1, ft18)) := (lt25 _ (by omega)).trans H_104
  obtain ⟨ft25, rt25⟩ := TA_c kt25
  refine J_astT (j := 1) (pc := 68) dX2_init_68 H_111 rt25 rfl (by omega) (by omega) ?_
  obtain ⟨h_117, eh_117⟩ : ∃ z : MH, z = (h_106.1, hset h_106.2 (10) (aT (5) (va_up (va_up ((fun _ => none)) (0) (some (18))) (1) (some (25))))) := ⟨_, rfl⟩
  refine J_heq (h2 := h_117) eh_117 ?_
  have zh_117 : h_117.1 = h_106.1 := by rw [eh_117]
  have H_118 : h_117.2 (1) = some (oB 2 [.ref (2), .ref (10), .ref (11), .int (nI (0)), .int (nI (3)), .int (nI (1))]) := (hs_n eh_117 (by omega)).trans H_108
  have H_119 : (∀ i, i < 1 → h_117.2 i = h.2 i) := by rw [eh_117]; exact (fun i i1 => (hset_n (by omega)).trans (H_109 i i1))
  have H_120 : BH h_117 β0 := by rw [eh_117]; exact BH_oth (fun i i1 i2 => hset_n (by omega)) H_110
  have H_121 : h_117.2 (10) = some (aT (5) (va_up (va_up ((fun _ => none)) (0) (some (18))) (1) (some (25)))) := hs_s eh_117
  have H_122 : TA h_117 11 := by rw [eh_117]; exact TA_oth (fun i i1 i2 => hset_n (by omega)) H_112
  have H_123 : h_117.2 (11) = some (.inr (1, ft11)) := (hs_n eh_117 (by omega)).trans H_113
  have H_124 : TA h_117 18 := by rw [eh_117]; exact TA_oth (fun i i1 i2 => hset_n (by omega)) H_114
  have H_125 : h_117.2 (18) = some (.inr (1, ft18)) := (hs_n eh_117 (by omega)).trans H_115
  have H_126 : TA h_117 25 := by rw [eh_117]; exact TA_oth (fun i i1 i2 => hset_n (by omega)) kt25
  have H_127 : h_117.2 (25) = some (.inr (1, ft25)) := (hs_n eh_117 (by omega)).trans rt25
  refine J_iinc (i := 1) (v := nI (2)) (lv' := [(1, .int (nI (2))), (0, .ref (1))]) (pc := 69) dX2_init_69 rfl rfl (by decide) rfl ?_
  refine J_goto (tgt := 51) (pc := 72) dX2_init_72 (by decide) ?_
  refine J_iload_n (i := 1) (pc := 51) dX2_init_51 rfl rfl ?_
  refine J_iconst (v := nI (5)) (pc := 52) dX2_init_52 rfl ?_
  refine J_icmp_geN (tgt := 75) (pc := 53) dX2_init_53 (by decide) (by omega) (by omega) (fun c53 => by exfalso; first | omega | simp_all) (fun c53 => ?_)
  refine J_aload_n (i := 0) (pc := 56) dX2_init_56 rfl rfl ?_
  refine J_getf (k := 1) (pc := 57) dX2_init_57 flX2_18 H_118 rfl ?_
  refine J_iload_n (i := 1) (pc := 60) dX2_init_60 rfl rfl ?_
  have eA_128 : (32 : Nat) = h_117.1 := by omega
  obtain ⟨h_129, eh_129⟩ : ∃ z : MH, z = (32 + 1, hset h_117.2 32 (oB 1 [.null, .null, .null, .null, .null, .null, .int (nI (0)), .int (nI (0)), .int (nI (0))])) := ⟨_, rfl⟩
  refine J_newA (A := 32) (h' := h_129) (ca' := 20) (sa' := 720) (pc := 61) dX2_init_61 nwX2_16 (by omega) (by omega) eA_128 eh_129 ?_
  have zh_129 : h_129.1 = 32 + 1 := by rw [eh_129]
  have H_130 : h_129.2 (1) = some (oB 2 [.ref (2), .ref (10), .ref (11), .int (nI (0)), .int (nI (3)), .int (nI (1))]) := (ha_n eh_129 (by omega)).trans H_118
  have H_131 : (∀ i, i < 1 → h_129.2 i = h.2 i) := (fun i i1 => (ha_n eh_129 (by omega)).trans (H_119 i i1))
  have H_132 : BH h_129 β0 := BH_oth (fun i i1 i2 => ha_n eh_129 (by omega)) H_120
  have H_133 : h_129.2 (10) = some (aT (5) (va_up (va_up ((fun _ => none)) (0) (some (18))) (1) (some (25)))) := (ha_n eh_129 (by omega)).trans H_121
  have H_134 : TA h_129 11 := TA_oth (fun i i1 i2 => ha_n eh_129 (by omega)) H_122
  have H_135 : h_129.2 (11) = some (.inr (1, ft11)) := (ha_n eh_129 (by omega)).trans H_123
  have H_136 : TA h_129 18 := TA_oth (fun i i1 i2 => ha_n eh_129 (by omega)) H_124
  have H_137 : h_129.2 (18) = some (.inr (1, ft18)) := (ha_n eh_129 (by omega)).trans H_125
  have H_138 : TA h_129 25 := TA_oth (fun i i1 i2 => ha_n eh_129 (by omega)) H_126
  have H_139 : h_129.2 (25) = some (.inr (1, ft25)) := (ha_n eh_129 (by omega)).trans H_127
  have H_140 : h_129.2 (32) = some (oB 1 [.null, .null, .null, .null, .null, .null, .int (nI (0)), .int (nI (0)), .int (nI (0))]) := ha_s eh_129
  refine J_dup (pc := 64) dX2_init_64 rfl ?_
  refine J_cINB (st := [.ref (32), .int (nI (2)), .ref (10)]) (As := []) (ca1 := 6) (sa1 := 234) (ca2 := 14) (sa2 := 486) (pc := 65) dX2_init_65 okX1_init q2_221 q2_222 rfl rfl rfl (Nat.le_of_ble_eq_true rfl) (Nat.le_of_ble_eq_true rfl) (c_Tinit H_140 (by omega)) (by omega) (by omega) (fun h_141 q_142 => ?_)
  obtain ⟨zt32, lt32, kt32⟩ := q_142
  have H_143 : h_141.2 (1) = some (oB 2 [.ref (2), .ref (10), .ref (11), .int (nI (0)), .int (nI (3)), .int (nI (1))]) := (lt32 _ (by omega)).trans H_130
  have H_144 : (∀ i, i < 1 → h_141.2 i = h.2 i) := fun i i1 => (lt32 i (by omega)).trans (H_131 i i1)
  have H_145 : BH h_141 β0 := BH_oth (fun i i1 i2 => lt32 i (by omega)) H_132
  have H_146 : h_141.2 (10) = some (aT (5) (va_up (va_up ((fun _ => none)) (0) (some (18))) (1) (some (25)))) := (lt32 _ (by omega)).trans H_133
  have H_147 : TA h_141 11 := TA_oth (fun i i1 i2 => lt32 i (by omega)) H_134
  have H_148 : h_141.2 (11) = some (.inr (1, ft11)) := (lt32 _ (by omega)).trans H_135
  have H_149 : TA h_141 18 := TA_oth (fun i i1 i2 => lt32 i (by omega)) H_136
  have H_150 : h_141.2 (18) = some (.inr (1, ft18)) := (lt32 _ (by omega)).trans H_137
  have H_151 : TA h_141 25 := TA_oth (fun i i1 i2 => lt32 i (by omega)) H_138
  have H_152 : h_141.2 (25) = some (.inr (1, ft25)) := (lt32 _ (by omega)).trans H_139
  obtain ⟨ft32, rt32⟩ := TA_c kt32
  refine J_astT (j := 2) (pc := 68) dX2_init_68 H_146 rt32 rfl (by omega) (by omega) ?_
  obtain ⟨h_154, eh_154⟩ : ∃ z : MH, z = (h_141.1, hset h_141.2 (10) (aT (5) (va_up (va_up (va_up ((fun _ => none)) (0) (some (18))) (1) (some (25))) (2) (some (32))))) := ⟨_, rfl⟩
  refine J_heq (h2 := h_154) eh_154 ?_
  have zh_154 : h_154.1 = h_141.1 := by rw [eh_154]
  have H_155 : h_154.2 (1) = some (oB 2 [.ref (2), .ref (10), .ref (11), .int (nI (0)), .int (nI (3)), .int (nI (1))]) := (hs_n eh_154 (by omega)).trans H_143
  have H_156 : (∀ i, i < 1 → h_154.2 i = h.2 i) := by rw [eh_154]; exact (fun i i1 => (hset_n (by omega)).trans (H_144 i i1))
  have H_157 : BH h_154 β0 := by rw [eh_154]; exact BH_oth (fun i i1 i2 => hset_n (by omega)) H_145
  have H_158 : h_154.2 (10) = some (aT (5) (va_up (va_up (va_up ((fun _ => none)) (0) (some (18))) (1) (some (25))) (2) (some (32)))) := hs_s eh_154
  have H_159 : TA h_154 11 := by rw [eh_154]; exact TA_oth (fun i i1 i2 => hset_n (by omega)) H_147
  have H_160 : h_154.2 (11) = some (.inr (1, ft11)) := (hs_n eh_154 (by omega)).trans H_148
  have H_161 : TA h_154 18 := by rw [eh_154]; exact TA_oth (fun i i1 i2 => hset_n (by omega)) H_149
  have H_162 : h_154.2 (18) = some (.inr (1, ft18)) := (hs_n eh_154 (by omega)).trans H_150
  have H_163 : TA h_154 25 := by rw [eh_154]; exact TA_oth (fun i i1 i2 => hset_n (by omega)) H_151
  have H_164 : h_154.2 (25) = some (.inr (1, ft25)) := (hs_n eh_154 (by omega)).trans H_152
  have H_165 : TA h_154 32 := by rw [eh_154]; exact TA_oth (fun i i1 i2 => hset_n (by omega)) kt32
  have H_166 : h_154.2 (32) = some (.inr (1, ft32)) := (hs_n eh_154 (by omega)).trans rt32
  refine J_iinc (i := 1) (v := nI (3)) (lv' := [(1, .int (nI (3))), (0, .ref (1))]) (pc := 69) dX2_init_69 rfl rfl (by decide) rfl ?_
  refine J_goto (tgt := 51) (pc := 72) dX2_init_72 (by decide) ?_
  refine J_iload_n (i := 1) (pc := 51) dX2_init_51 rfl rfl ?_
  refine J_iconst (v := nI (5)) (pc := 52) dX2_init_52 rfl ?_
  refine J_icmp_geN (tgt := 75) (pc := 53) dX2_init_53 (by decide) (by omega) (by omega) (fun c53 => by exfalso; first | omega | simp_all) (fun c53 => ?_)
  refine J_aload_n (i := 0) (pc := 56) dX2_init_56 rfl rfl ?_
  refine J_getf (k := 1) (pc := 57) dX2_init_57 flX2_18 H_155 rfl ?_
  refine J_iload_n (i := 1) (pc := 60) dX2_init_60 rfl rfl ?_
  have eA_167 : (39 : Nat) = h_154.1 := by omega
  obtain ⟨h_168, eh_168⟩ : ∃ z : MH, z = (39 + 1, hset h_154.2 39 (oB 1 [.null, .null, .null, .null, .null, .null, .int (nI (0)), .int (nI (0)), .int (nI (0))])) := ⟨_, rfl⟩
  refine J_newA (A := 39) (h' := h_168) (ca' := 13) (sa' := 477) (pc := 61) dX2_init_61 nwX2_16 (by omega) (by omega) eA_167 eh_168 ?_
  have zh_168 : h_168.1 = 39 + 1 := by rw [eh_168]
  have H_169 : h_168.2 (1) = some (oB 2 [.ref (2), .ref (10), .ref (11), .int (nI (0)), .int (nI (3)), .int (nI (1))]) := (ha_n eh_168 (by omega)).trans H_155
  have H_170 : (∀ i, i < 1 → h_168.2 i = h.2 i) := (fun i i1 => (ha_n eh_168 (by omega)).trans (H_156 i i1))
  have H_171 : BH h_168 β0 := BH_oth (fun i i1 i2 => ha_n eh_168 (by omega)) H_157
  have H_172 : h_168.2 (10) = some (aT (5) (va_up (va_up (va_up ((fun _ => none)) (0) (some (18))) (1) (some (25))) (2) (some (32)))) := (ha_n eh_168 (by omega)).trans H_158
  have H_173 : TA h_168 11 := TA_oth (fun i i1 i2 => ha_n eh_168 (by omega)) H_159
  have H_174 : h_168.2 (11) = some (.inr (1, ft11)) := (ha_n eh_168 (by omega)).trans H_160
  have H_175 : TA h_168 18 := TA_oth (fun i i1 i2 => ha_n eh_168 (by omega)) H_161
  have H_176 : h_168.2 (18) = some (.inr (1, ft18)) := (ha_n eh_168 (by omega)).trans H_162
  have H_177 : TA h_168 25 := TA_oth (fun i i1 i2 => ha_n eh_168 (by omega)) H_163
  have H_178 : h_168.2 (25) = some (.inr (1, ft25)) := (ha_n eh_168 (by omega)).trans H_164
  have H_179 : TA h_168 32 := TA_oth (fun i i1 i2 => ha_n eh_168 (by omega)) H_165
  have H_180 : h_168.2 (32) = some (.inr (1, ft32)) := (ha_n eh_168 (by omega)).trans H_166
  have H_181 : h_168.2 (39) = some (oB 1 [.null, .null, .null, .null, .null, .null, .int (nI (0)), .int (nI (0)), .int (nI (0))]) := ha_s eh_168
  refine J_dup (pc := 64) dX2_init_64 rfl ?_
  refine J_cINB (st := [.ref (39), .int (nI (3)), .ref (10)]) (As := []) (ca1 := 6) (sa1 := 234) (ca2 := 7) (sa2 := 243) (pc := 65) dX2_init_65 okX1_init q2_221 q2_222 rfl rfl rfl (Nat.le_of_ble_eq_true rfl) (Nat.le_of_ble_eq_true rfl) (c_Tinit H_181 (by omega)) (by omega) (by omega) (fun h_182 q_183 => ?_)
  obtain ⟨zt39, lt39, kt39⟩ := q_183
  have H_184 : h_182.2 (1) = some (oB 2 [.ref (2), .ref (10), .ref (11), .int (nI (0)), .int (nI (3)), .int (nI (1))]) := (lt39 _ (by omega)).trans H_169
  have H_185 : (∀ i, i < 1 → h_182.2 i = h.2 i) := fun i i1 => (lt39 i (by omega)).trans (H_170 i i1)
  have H_186 : BH h_182 β0 := BH_oth (fun i i1 i2 => lt39 i (by omega)) H_171
  have H_187 : h_182.2 (10) = some (aT (5) (va_up (va_up (va_up ((fun _ => none)) (0) (some (18))) (1) (some (25))) (2) (some (32)))) := (lt39 _ (by omega)).trans H_172
  have H_188 : TA h_182 11 := TA_oth (fun i i1 i2 => lt39 i (by omega)) H_173
  have H_189 : h_182.2 (11) = some (.inr (1, ft11)) := (lt39 _ (by omega)).trans H_174
  have H_190 : TA h_182 18 := TA_oth (fun i i1 i2 => lt39 i (by omega)) H_175
  have H_191 : h_182.2 (18) = some (.inr (1, ft18)) := (lt39 _ (by omega)).trans H_176
  have H_192 : TA h_182 25 := TA_oth (fun i i1 i2 => lt39 i (by omega)) H_177
  have H_193 : h_182.2 (25) = some (.inr (1, ft25)) := (lt39 _ (by omega)).trans H_178
  have H_194 : TA h_182 32 := TA_oth (fun i i1 i2 => lt39 i (by omega)) H_179
  have H_195 : h_182.2 (32) = some (.inr (1, ft32)) := (lt39 _ (by omega)).trans H_180
  obtain ⟨ft39, rt39⟩ := TA_c kt39
  refine J_astT (j := 3) (pc := 68) dX2_init_68 H_187 rt39 rfl (by omega) (by omega) ?_
  obtain ⟨h_197, eh_197⟩ : ∃ z : MH, z = (h_182.1, hset h_182.2 (10) (aT (5) (va_up (va_up (va_up (va_up ((fun _ => none)) (0) (some (18))) (1) (some (25))) (2) (some (32))) (3) (some (39))))) := ⟨_, rfl⟩
  refine J_heq (h2 := h_197) eh_197 ?_
  have zh_197 : h_197.1 = h_182.1 := by rw [eh_197]
  have H_198 : h_197.2 (1) = some (oB 2 [.ref (2), .ref (10), .ref (11), .int (nI (0)), .int (nI (3)), .int (nI (1))]) := (hs_n eh_197 (by omega)).trans H_184
  have H_199 : (∀ i, i < 1 → h_197.2 i = h.2 i) := by rw [eh_197]; exact (fun i i1 => (hset_n (by omega)).trans (H_185 i i1))
  have H_200 : BH h_197 β0 := by rw [eh_197]; exact BH_oth (fun i i1 i2 => hset_n (by omega)) H_186
  have H_201 : h_197.2 (10) = some (aT (5) (va_up (va_up (va_up (va_up ((fun _ => none)) (0) (some (18))) (1) (some (25))) (2) (some (32))) (3) (some (39)))) := hs_s eh_197
  have H_202 : TA h_197 11 := by rw [eh_197]; exact TA_oth (fun i i1 i2 => hset_n (by omega)) H_188
  have H_203 : h_197.2 (11) = some (.inr (1, ft11)) := (hs_n eh_197 (by omega)).trans H_189
  have H_204 : TA h_197 18 := by rw [eh_197]; exact TA_oth (fun i i1 i2 => hset_n (by omega)) H_190
  have H_205 : h_197.2 (18) = some (.inr (1, ft18)) := (hs_n eh_197 (by omega)).trans H_191
  have H_206 : TA h_197 25 := by rw [eh_197]; exact TA_oth (fun i i1 i2 => hset_n (by omega)) H_192
  have H_207 : h_197.2 (25) = some (.inr (1, ft25)) := (hs_n eh_197 (by omega)).trans H_193
  have H_208 : TA h_197 32 := by rw [eh_197]; exact TA_oth (fun i i1 i2 => hset_n (by omega)) H_194
  have H_209 : h_197.2 (32) = some (.inr (1, ft32)) := (hs_n eh_197 (by omega)).trans H_195
  have H_210 : TA h_197 39 := by rw [eh_197]; exact TA_oth (fun i i1 i2 => hset_n (by omega)) kt39
  have H_211 : h_197.2 (39) = some (.inr (1, ft39)) := (hs_n eh_197 (by omega)).trans rt39
  refine J_iinc (i := 1) (v := nI (4)) (lv' := [(1, .int (nI (4))), (0, .ref (1))]) (pc := 69) dX2_init_69 rfl rfl (by decide) rfl ?_
  refine J_goto (tgt := 51) (pc := 72) dX2_init_72 (by decide) ?_
  refine J_iload_n (i := 1) (pc := 51) dX2_init_51 rfl rfl ?_
  refine J_iconst (v := nI (5)) (pc := 52) dX2_init_52 rfl ?_
  refine J_icmp_geN (tgt := 75) (pc := 53) dX2_init_53 (by decide) (by omega) (by omega) (fun c53 => by exfalso; first | omega | simp_all) (fun c53 => ?_)
  refine J_aload_n (i := 0) (pc := 56) dX2_init_56 rfl rfl ?_
  refine J_getf (k := 1) (pc := 57) dX2_init_57 flX2_18 H_198 rfl ?_
  refine J_iload_n (i := 1) (pc := 60) dX2_init_60 rfl rfl ?_
  have eA_212 : (46 : Nat) = h_197.1 := by omega
  obtain ⟨h_213, eh_213⟩ : ∃ z : MH, z = (46 + 1, hset h_197.2 46 (oB 1 [.null, .null, .null, .null, .null, .null, .int (nI (0)), .int (nI (0)), .int (nI (0))])) := ⟨_, rfl⟩
  refine J_newA (A := 46) (h' := h_213) (ca' := 6) (sa' := 234) (pc := 61) dX2_init_61 nwX2_16 (by omega) (by omega) eA_212 eh_213 ?_
  have zh_213 : h_213.1 = 46 + 1 := by rw [eh_213]
  have H_214 : h_213.2 (1) = some (oB 2 [.ref (2), .ref (10), .ref (11), .int (nI (0)), .int (nI (3)), .int (nI (1))]) := (ha_n eh_213 (by omega)).trans H_198
  have H_215 : (∀ i, i < 1 → h_213.2 i = h.2 i) := (fun i i1 => (ha_n eh_213 (by omega)).trans (H_199 i i1))
  have H_216 : BH h_213 β0 := BH_oth (fun i i1 i2 => ha_n eh_213 (by omega)) H_200
  have H_217 : h_213.2 (10) = some (aT (5) (va_up (va_up (va_up (va_up ((fun _ => none)) (0) (some (18))) (1) (some (25))) (2) (some (32))) (3) (some (39)))) := (ha_n eh_213 (by omega)).trans H_201
  have H_218 : TA h_213 11 := TA_oth (fun i i1 i2 => ha_n eh_213 (by omega)) H_202
  have H_219 : h_213.2 (11) = some (.inr (1, ft11)) := (ha_n eh_213 (by omega)).trans H_203
  have H_220 : TA h_213 18 := TA_oth (fun i i1 i2 => ha_n eh_213 (by omega)) H_204
  have H_221 : h_213.2 (18) = some (.inr (1, ft18)) := (ha_n eh_213 (by omega)).trans H_205
  have H_222 : TA h_213 25 := TA_oth (fun i i1 i2 => ha_n eh_213 (by omega)) H_206
  have H_223 : h_213.2 (25) = some (.inr (1, ft25)) := (ha_n eh_213 (by omega)).trans H_207
  have H_224 : TA h_213 32 := TA_oth (fun i i1 i2 => ha_n eh_213 (by omega)) H_208
  have H_225 : h_213.2 (32) = some (.inr (1, ft32)) := (ha_n eh_213 (by omega)).trans H_209
  have H_226 : TA h_213 39 := TA_oth (fun i i1 i2 => ha_n eh_213 (by omega)) H_210
  have H_227 : h_213.2 (39) = some (.inr (1, ft39)) := (ha_n eh_213 (by omega)).trans H_211
  have H_228 : h_213.2 (46) = some (oB 1 [.null, .null, .null, .null, .null, .null, .int (nI (0)), .int (nI (0)), .int (nI (0))]) := ha_s eh_213
  refine J_dup (pc := 64) dX2_init_64 rfl ?_
  refine J_cINB (st := [.ref (46), .int (nI (4)), .ref (10)]) (As := []) (ca1 := 6) (sa1 := 234) (ca2 := 0) (sa2 := 0) (pc := 65) dX2_init_65 okX1_init q2_221 q2_222 rfl rfl rfl (Nat.le_of_ble_eq_true rfl) (Nat.le_of_ble_eq_true rfl) (c_Tinit H_228 (by omega)) (by omega) (by omega) (fun h_229 q_230 => ?_)
  obtain ⟨zt46, lt46, kt46⟩ := q_230
  have H_231 : h_229.2 (1) = some (oB 2 [.ref (2), .ref (10), .ref (11), .int (nI (0)), .int (nI (3)), .int (nI (1))]) := (lt46 _ (by omega)).trans H_214
  have H_232 : (∀ i, i < 1 → h_229.2 i = h.2 i) := fun i i1 => (lt46 i (by omega)).trans (H_215 i i1)
  have H_233 : BH h_229 β0 := BH_oth (fun i i1 i2 => lt46 i (by omega)) H_216
  have H_234 : h_229.2 (10) = some (aT (5) (va_up (va_up (va_up (va_up ((fun _ => none)) (0) (some (18))) (1) (some (25))) (2) (some (32))) (3) (some (39)))) := (lt46 _ (by omega)).trans H_217
  have H_235 : TA h_229 11 := TA_oth (fun i i1 i2 => lt46 i (by omega)) H_218
  have H_236 : h_229.2 (11) = some (.inr (1, ft11)) := (lt46 _ (by omega)).trans H_219
  have H_237 : TA h_229 18 := TA_oth (fun i i1 i2 => lt46 i (by omega)) H_220
  have H_238 : h_229.2 (18) = some (.inr (1, ft18)) := (lt46 _ (by omega)).trans H_221
  have H_239 : TA h_229 25 := TA_oth (fun i i1 i2 => lt46 i (by omega)) H_222
  have H_240 : h_229.2 (25) = some (.inr (1, ft25)) := (lt46 _ (by omega)).trans H_223
  have H_241 : TA h_229 32 := TA_oth (fun i i1 i2 => lt46 i (by omega)) H_224
  have H_242 : h_229.2 (32) = some (.inr (1, ft32)) := (lt46 _ (by omega)).trans H_225
  have H_243 : TA h_229 39 := TA_oth (fun i i1 i2 => lt46 i (by omega)) H_226
  have H_244 : h_229.2 (39) = some (.inr (1, ft39)) := (lt46 _ (by omega)).trans H_227
  obtain ⟨ft46, rt46⟩ := TA_c kt46
  refine J_astT (j := 4) (pc := 68) dX2_init_68 H_234 rt46 rfl (by omega) (by omega) ?_
  obtain ⟨h_246, eh_246⟩ : ∃ z : MH, z = (h_229.1, hset h_229.2 (10) (aT (5) (va_up (va_up (va_up (va_up (va_up ((fun _ => none)) (0) (some (18))) (1) (some (25))) (2) (some (32))) (3) (some (39))) (4) (some (46))))) := ⟨_, rfl⟩
  refine J_heq (h2 := h_246) eh_246 ?_
  have zh_246 : h_246.1 = h_229.1 := by rw [eh_246]
  have H_247 : h_246.2 (1) = some (oB 2 [.ref (2), .ref (10), .ref (11), .int (nI (0)), .int (nI (3)), .int (nI (1))]) := (hs_n eh_246 (by omega)).trans H_231
  have H_248 : (∀ i, i < 1 → h_246.2 i = h.2 i) := by rw [eh_246]; exact (fun i i1 => (hset_n (by omega)).trans (H_232 i i1))
  have H_249 : BH h_246 β0 := by rw [eh_246]; exact BH_oth (fun i i1 i2 => hset_n (by omega)) H_233
  have H_250 : h_246.2 (10) = some (aT (5) (va_up (va_up (va_up (va_up (va_up ((fun _ => none)) (0) (some (18))) (1) (some (25))) (2) (some (32))) (3) (some (39))) (4) (some (46)))) := hs_s eh_246
  have H_251 : TA h_246 11 := by rw [eh_246]; exact TA_oth (fun i i1 i2 => hset_n (by omega)) H_235
  have H_252 : h_246.2 (11) = some (.inr (1, ft11)) := (hs_n eh_246 (by omega)).trans H_236
  have H_253 : TA h_246 18 := by rw [eh_246]; exact TA_oth (fun i i1 i2 => hset_n (by omega)) H_237
  have H_254 : h_246.2 (18) = some (.inr (1, ft18)) := (hs_n eh_246 (by omega)).trans H_238
  have H_255 : TA h_246 25 := by rw [eh_246]; exact TA_oth (fun i i1 i2 => hset_n (by omega)) H_239
  have H_256 : h_246.2 (25) = some (.inr (1, ft25)) := (hs_n eh_246 (by omega)).trans H_240
  have H_257 : TA h_246 32 := by rw [eh_246]; exact TA_oth (fun i i1 i2 => hset_n (by omega)) H_241
  have H_258 : h_246.2 (32) = some (.inr (1, ft32)) := (hs_n eh_246 (by omega)).trans H_242
  have H_259 : TA h_246 39 := by rw [eh_246]; exact TA_oth (fun i i1 i2 => hset_n (by omega)) H_243
  have H_260 : h_246.2 (39) = some (.inr (1, ft39)) := (hs_n eh_246 (by omega)).trans H_244
  have H_261 : TA h_246 46 := by rw [eh_246]; exact TA_oth (fun i i1 i2 => hset_n (by omega)) kt46
  have H_262 : h_246.2 (46) = some (.inr (1, ft46)) := (hs_n eh_246 (by omega)).trans rt46
  refine J_iinc (i := 1) (v := nI (5)) (lv' := [(1, .int (nI (5))), (0, .ref (1))]) (pc := 69) dX2_init_69 rfl rfl (by decide) rfl ?_
  refine J_goto (tgt := 51) (pc := 72) dX2_init_72 (by decide) ?_
  refine J_iload_n (i := 1) (pc := 51) dX2_init_51 rfl rfl ?_
  refine J_iconst (v := nI (5)) (pc := 52) dX2_init_52 rfl ?_
  refine J_icmp_geN (tgt := 75) (pc := 53) dX2_init_53 (by decide) (by omega) (by omega) (fun c53 => ?_) (fun c53 => by exfalso; first | omega | simp_all)
  refine J_vret (pc := 75) dX2_init_75 rfl ?_
  refine ⟨rfl, by omega, H_248, fun i => 18 + 7 * i, H_249, ⟨Nat.zero_le _, ⟨by decide, by decide⟩, ⟨by decide, by decide⟩, fun i hi => absurd hi (Nat.not_lt_zero i)⟩, ⟨fun i hi => ⟨i, hi, rfl⟩, fun i j _ _ q => by (have q2 : 18 + 7 * i = 18 + 7 * j := q); omega⟩, H_247, ⟨_, H_250, ?_⟩, H_251, ?_, fun i hi => absurd hi (Nat.not_lt_zero i)⟩
  · intro i hi
    obtain rfl | rfl | rfl | rfl | rfl : i = 0 ∨ i = 1 ∨ i = 2 ∨ i = 3 ∨ i = 4 := by omega
    all_goals rfl
  · intro i hi
    obtain rfl | rfl | rfl | rfl | rfl : i = 0 ∨ i = 1 ∨ i = 2 ∨ i = 3 ∨ i = 4 := by omega
    · exact H_253
    · exact H_255
    · exact H_257
    · exact H_259
    · exact H_261

