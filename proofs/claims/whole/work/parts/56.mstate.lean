-- the reference: pruning; its state; votes
set_option maxHeartbeats 2000000 in
set_option maxRecDepth 20000 in
theorem m_pruned {g : GT} {dd : Nat} {β : BT} {A : Nat} : ∀ (d s : Nat) (t : TR d) (X : Nat) (h : MH) (f : Nat → Int32), MS h β → 60 ≤ h.1 → h.2 A = some (aI 320 f) → 60 ≤ A → A < h.1 → RW f d s t → okT d t → (s + 1) * 2 ^ d ≤ 64 → d ≤ 5 → 1 ≤ s → X < 2 ^ 20 →
    J g (dd + d + 3) (d * cnt X) (3 * (d * cnt X)) mX3_pruned 0 (lv_args 0 [.ref 53, .ref A, .int (nI s), .int (nI X)]) [] h (fun r h' => r = .inl (some (.int (nI (tuP β d t X)))) ∧ EA A h h' ∧ ∃ f', h'.2 A = some (aI 320 f') ∧ RW f' d s (prT β d t X) ∧ ∀ q e, ¬ inS d s q → e < 5 → f' (5 * q + e) = f (5 * q + e)) := by
  intro d
  induction d with
  | zero =>
    intro s t X h f hM hz hA hA1 hA2 hr ok hs hd hs1 hX
    have hs64 := sp64 hs
    refine J_aload_n (i := 1) (pc := 0) dX3_pruned_0 rfl rfl ?_
    refine J_iload_n (i := 2) (pc := 1) dX3_pruned_1 rfl rfl ?_
    refine J_cSi (st := []) (As := [.ref (A), .int (nI (s))]) (pc := 2) dX3_pruned_2 okX3_isFork q4_20 q4_21 rfl (Nat.le_of_ble_eq_true rfl) (Nat.le_of_ble_eq_true rfl) (m_isForkF hA (by omega) (RW_0 hr)) ?_
    refine J_if_neN (tgt := 10) (pc := 5) dX3_pruned_5 (by decide) (by omega) (fun c5 => by exfalso; first | omega | simp_all) (fun c5 => ?_)
    refine J_iconst (v := nI (0)) (pc := 8) dX3_pruned_8 rfl ?_
    refine J_iret (ty := .int) (pc := 9) dX3_pruned_9 rfl rfl ?_
    exact ⟨rfl, EA_rfl, f, hA, hr, fun _ _ _ _ => rfl⟩
  | succ d ih =>
    intro s t X h f hM hz hA hA1 hA2 hr ok hs hd hs1 hX
    have hd1 : d ≤ 5 := by omega
    obtain ⟨hs64, p1, p2⟩ := sp2 hs
    show J g (dd + d + 3 + 1) _ _ mX3_pruned 0 _ [] h _
    rcases TR_c t with ⟨st, mn, rfl⟩ | ⟨st, mn, c, l, r, rfl⟩
    · skip
      refine J_aload_n (i := 1) (pc := 0) dX3_pruned_0 rfl rfl ?_
      refine J_iload_n (i := 2) (pc := 1) dX3_pruned_1 rfl rfl ?_
      refine J_cSi (st := []) (As := [.ref (A), .int (nI (s))]) (pc := 2) dX3_pruned_2 okX3_isFork q4_20 q4_21 rfl (Nat.le_of_ble_eq_true rfl) (Nat.le_of_ble_eq_true rfl) (m_isForkF hA (by omega) (RW_l hr)) ?_
      refine J_if_neN (tgt := 10) (pc := 5) dX3_pruned_5 (by decide) (by omega) (fun c5 => by exfalso; first | omega | simp_all) (fun c5 => ?_)
      refine J_iconst (v := nI (0)) (pc := 8) dX3_pruned_8 rfl ?_
      refine J_iret (ty := .int) (pc := 9) dX3_pruned_9 rfl rfl ?_
      exact ⟨rfl, EA_rfl, f, hA, hr, fun _ _ _ _ => rfl⟩
    · obtain ⟨hW, ⟨th, dq, lq, kk, m53⟩, ⟨mf, m54, em⟩, ⟨sf, m55, es⟩⟩ := id hM
      obtain ⟨hn, hc9, hm5, hs2⟩ := id hW
      have hp9 := pw_le hn
      have hc := ok.2.1
      have hst := ok.1.1
      have hcs := cnt_two β X c
      have hcx := cnt_le X
      have hof := ofS_le β X st
      obtain ⟨n1, en1⟩ : ∃ z, z = cnt (X &&& mkC β c) := ⟨_, rfl⟩
      obtain ⟨n2, en2⟩ : ∃ z, z = cnt (sdf X (X &&& mkC β c)) := ⟨_, rfl⟩
      rw [← en1, ← en2] at hcs
      have hmul : (d + 1) * cnt X = d * n1 + d * n2 + cnt X := by rw [Nat.succ_mul, hcs, Nat.mul_add]
      have hlow0 : X &&& mkC β c ≤ X := Nat.and_le_left
      have hsd0 := sdf_le X (X &&& mkC β c)
      have e3 : f (5 * s + 3) = nI st := hr.1.2.2.2.1
      refine J_aload_n (i := 1) (pc := 0) dX3_pruned_0 rfl rfl ?_
      refine J_iload_n (i := 2) (pc := 1) dX3_pruned_1 rfl rfl ?_
      refine J_cSi (st := []) (As := [.ref (A), .int (nI (s))]) (pc := 2) dX3_pruned_2 okX3_isFork q4_20 q4_21 rfl (Nat.le_of_ble_eq_true rfl) (Nat.le_of_ble_eq_true rfl) (m_isForkT hA (by omega) hr.1.1) ?_
      refine J_if_neN (tgt := 10) (pc := 5) dX3_pruned_5 (by decide) (by omega) (fun c5 => ?_) (fun c5 => by exfalso; first | omega | simp_all)
      refine J_aload_n (i := 0) (pc := 10) dX3_pruned_10 rfl rfl ?_
      refine J_iload_n (i := 3) (pc := 11) dX3_pruned_11 rfl rfl ?_
      refine J_aload_n (i := 1) (pc := 12) dX3_pruned_12 rfl rfl ?_
      refine J_iconst (v := nI (5)) (pc := 13) dX3_pruned_13 rfl ?_
      refine J_iload_n (i := 2) (pc := 14) dX3_pruned_14 rfl rfl ?_
      refine J_imulN (pc := 15) dX3_pruned_15 ?_
      refine J_iconst (v := nI (1)) (pc := 16) dX3_pruned_16 rfl ?_
      refine J_iaddN (pc := 17) dX3_pruned_17 ?_
      refine J_iald (j := ((5) * (s)) + 1) (pc := 18) dX3_pruned_18 hA rfl (by omega) (by omega) ?_
      rw [show f (((5) * (s)) + 1) = nI (c / 51) from hr.1.2.1]
      refine J_aload_n (i := 1) (pc := 19) dX3_pruned_19 rfl rfl ?_
      refine J_iconst (v := nI (5)) (pc := 20) dX3_pruned_20 rfl ?_
      refine J_iload_n (i := 2) (pc := 21) dX3_pruned_21 rfl rfl ?_
      refine J_imulN (pc := 22) dX3_pruned_22 ?_
      refine J_iconst (v := nI (2)) (pc := 23) dX3_pruned_23 rfl ?_
      refine J_iaddN (pc := 24) dX3_pruned_24 ?_
      refine J_iald (j := ((5) * (s)) + 2) (pc := 25) dX3_pruned_25 hA rfl (by omega) (by omega) ?_
      rw [show f (((5) * (s)) + 2) = nI (c % 51) from hr.1.2.2.1]
      refine J_cVi (st := []) (As := [.int (nI (X)), .int (nI (c / 51)), .int (nI (c % 51))]) (pc := 26) dX3_pruned_26 okX3_lowOf q3_227 q3_229 qs2_5 (rfl : vwCl[3]? = some _) m53 rfl (Nat.le_of_ble_eq_true rfl) (Nat.le_of_ble_eq_true rfl) (m_lowOf hM (by omega) (by omega) (by omega)) ?_
      obtain ⟨low, elow⟩ : ∃ z : Nat, z = X &&& mkL β (c / 51) (c % 51) := ⟨_, rfl⟩
      rw [← elow]
      have hlow : low ≤ X := by rw [elow]; exact Nat.and_le_left
      have elow2 : low = X &&& mkC β c := elow
      have hsd := sdf_le X low
      refine J_istore (i := 4) (lv' := [(4, .int (nI (low))), (0, .ref (53)), (1, .ref (A)), (2, .int (nI (s))), (3, .int (nI (X)))]) (pc := 29) dX3_pruned_29 (by decide) rfl ?_
      refine J_aload_n (i := 0) (pc := 31) dX3_pruned_31 rfl rfl ?_
      refine J_aload_n (i := 1) (pc := 32) dX3_pruned_32 rfl rfl ?_
      refine J_iconst (v := nI (2)) (pc := 33) dX3_pruned_33 rfl ?_
      refine J_iload_n (i := 2) (pc := 34) dX3_pruned_34 rfl rfl ?_
      refine J_imulN (pc := 35) dX3_pruned_35 ?_
      refine J_iload (i := 4) (pc := 36) dX3_pruned_36 rfl ?_
      refine J_cVB (st := []) (As := [.ref (A), .int (nI ((2) * (s))), .int (nI (low))]) (v := some (.int (nI (tuP β d l low)))) (ca1 := d * n1) (sa1 := 3 * (d * n1)) (ca2 := d * n2 + cnt X) (sa2 := 3 * (d * n2) + 3 * cnt X) (pc := 38) dX3_pruned_38 okX3_pruned q4_16 q4_18 qs2_10 (rfl : vwCl[3]? = some _) m53 rfl (Nat.le_of_ble_eq_true rfl) (Nat.le_of_ble_eq_true rfl) ((by have r := ih (2 * s) l low h f hM (by omega) hA (by omega) (by omega) hr.2.1 ok.2.2.1 p1 hd1 (by omega) (by omega); rw [show cnt low = n1 from by rw [en1, elow2]] at r; exact r)) (by omega) (by omega) (fun h_1 q_2 => ?_)
      obtain ⟨xa1, f1, hA1, rw1, fr1⟩ := q_2
      have zh_1 := xa1.1
      have H_3 : h_1.2 (53) = some (oB 3 [.int (th), .int (nI (β.1)), .ref (54), .ref (55), .int (nI (β.2.1)), .int (dq), .int (lq), .int (kk), .ref (56), .ref (57), .ref (58)]) := (xa1.2 _ (by omega) (by omega)).trans m53
      have H_4 : h_1.2 (54) = some (aI (60) (mf)) := (xa1.2 _ (by omega) (by omega)).trans m54
      have H_5 : h_1.2 (55) = some (aI (20) (sf)) := (xa1.2 _ (by omega) (by omega)).trans m55
      have H_6 : EA A h h_1 := EA_tr EA_rfl xa1
      have H_7 : MS h_1 β := MS_EA xa1 (by omega) (by omega) hM
      refine J_aload_n (i := 0) (pc := 41) dX3_pruned_41 rfl rfl ?_
      refine J_aload_n (i := 1) (pc := 42) dX3_pruned_42 rfl rfl ?_
      refine J_iconst (v := nI (2)) (pc := 43) dX3_pruned_43 rfl ?_
      refine J_iload_n (i := 2) (pc := 44) dX3_pruned_44 rfl rfl ?_
      refine J_imulN (pc := 45) dX3_pruned_45 ?_
      refine J_iconst (v := nI (1)) (pc := 46) dX3_pruned_46 rfl ?_
      refine J_iaddN (pc := 47) dX3_pruned_47 ?_
      refine J_iload_n (i := 3) (pc := 48) dX3_pruned_48 rfl rfl ?_
      refine J_iload (i := 4) (pc := 49) dX3_pruned_49 rfl ?_
      refine J_iconst (v := (-1)) (pc := 51) dX3_pruned_51 rfl ?_
      refine J_ixor (pc := 52) dX3_pruned_52 ?_
      refine J_iandX (pc := 53) dX3_pruned_53 ?_
      refine J_cVB (st := [.int (nI (tuP β d l low))]) (As := [.ref (A), .int (nI (((2) * (s)) + 1)), .int (nI (sdf (X) (low)))]) (v := some (.int (nI (tuP β d r (sdf X low))))) (ca1 := d * n2) (sa1 := 3 * (d * n2)) (ca2 := cnt X) (sa2 := 3 * cnt X) (pc := 54) dX3_pruned_54 okX3_pruned q4_16 q4_18 qs2_10 (rfl : vwCl[3]? = some _) H_3 rfl (Nat.le_of_ble_eq_true rfl) (Nat.le_of_ble_eq_true rfl) ((by have r := ih (2 * s + 1) r (sdf X low) h_1 f1 H_7 (by omega) hA1 (by omega) (by omega) (RW_congr d _ _ (fun q e hq he => fr1 q e (fun z => inS_dj (by omega) z hq) he) hr.2.2) ok.2.2.2 p2 hd1 (by omega) (by omega); rw [show cnt (sdf X low) = n2 from by rw [en2, elow2]] at r; exact r)) (by omega) (by omega) (fun h_9 q_10 => ?_)
      obtain ⟨xa2, f2, hA2, rw2, fr2⟩ := q_10
      have zh_9 := xa2.1
      have H_11 : h_9.2 (53) = some (oB 3 [.int (th), .int (nI (β.1)), .ref (54), .ref (55), .int (nI (β.2.1)), .int (dq), .int (lq), .int (kk), .ref (56), .ref (57), .ref (58)]) := (xa2.2 _ (by omega) (by omega)).trans H_3
      have H_12 : h_9.2 (54) = some (aI (60) (mf)) := (xa2.2 _ (by omega) (by omega)).trans H_4
      have H_13 : h_9.2 (55) = some (aI (20) (sf)) := (xa2.2 _ (by omega) (by omega)).trans H_5
      have H_14 : EA A h h_9 := EA_tr H_6 xa2
      have H_15 : MS h_9 β := MS_EA xa2 (by omega) (by omega) H_7
      have ns : ∀ e, e < 5 → f2 (5 * s + e) = f (5 * s + e) := fun e he => (fr2 s e (fun z => (inS_ne (by omega) (Or.inr z)) rfl) he).trans (fr1 s e (fun z => (inS_ne (by omega) (Or.inl z)) rfl) he)
      have rwl : RW f2 d (2 * s) (prT β d l (X &&& mkC β c)) := by
        rw [elow2] at rw1
        exact RW_congr d _ _ (fun q e hq he => fr2 q e (fun z => inS_dj (by omega) hq z) he) rw1
      have rwr : RW f2 d (2 * s + 1) (prT β d r (sdf X (X &&& mkC β c))) := by
        rw [elow2] at rw2
        exact rw2
      have rwT : RW f2 (d + 1) s ((st, mn), some (c, prT β d l (X &&& mkC β c), prT β d r (sdf X (X &&& mkC β c)))) := ⟨⟨(ns 0 (by decide)).trans hr.1.1, (ns 1 (by decide)).trans hr.1.2.1, (ns 2 (by decide)).trans hr.1.2.2.1, (ns 3 (by decide)).trans hr.1.2.2.2.1, (ns 4 (by decide)).trans hr.1.2.2.2.2⟩, rwl, rwr⟩
      have okT' : okT (d + 1) ((st, mn), some (c, prT β d l (X &&& mkC β c), prT β d r (sdf X (X &&& mkC β c)))) := ⟨ok.1, ok.2.1, ok_pr β d l _ ok.2.2.1, ok_pr β d r _ ok.2.2.2⟩
      have bl := rgT_le β d (prT β d l (X &&& mkC β c)) (X &&& mkC β c)
      have br := rgT_le β d (prT β d r (sdf X (X &&& mkC β c))) (sdf X (X &&& mkC β c))
      have bnl := nN_63 (prT β d l (X &&& mkC β c)) hd1
      have bnr := nN_63 (prT β d r (sdf X (X &&& mkC β c))) hd1
      refine J_iaddN (pc := 57) dX3_pruned_57 ?_
      refine J_istore (i := 5) (lv' := [(5, .int (nI ((tuP β d l low) + (tuP β d r (sdf X low))))), (4, .int (nI (low))), (0, .ref (53)), (1, .ref (A)), (2, .int (nI (s))), (3, .int (nI (X)))]) (pc := 58) dX3_pruned_58 (by decide) rfl ?_
      refine J_aload_n (i := 0) (pc := 60) dX3_pruned_60 rfl rfl ?_
      refine J_aload_n (i := 1) (pc := 61) dX3_pruned_61 rfl rfl ?_
      refine J_iload_n (i := 2) (pc := 62) dX3_pruned_62 rfl rfl ?_
      refine J_iload_n (i := 3) (pc := 63) dX3_pruned_63 rfl rfl ?_
      refine J_cVB (st := []) (As := [.ref (A), .int (nI (s)), .int (nI (X))]) (v := some (.int (nI (rgT β d (prT β d l (X &&& mkC β c)) (X &&& mkC β c) + rgT β d (prT β d r (sdf X (X &&& mkC β c))) (sdf X (X &&& mkC β c)))))) (ca1 := cnt X) (sa1 := 3 * cnt X) (ca2 := 0) (sa2 := 0) (pc := 64) dX3_pruned_64 okX3_right q4_23 q4_25 qs2_11 (rfl : vwCl[3]? = some _) H_11 rfl (Nat.le_of_ble_eq_true rfl) (Nat.le_of_ble_eq_true rfl) (m_right (d := d + 1) H_15 (by omega) hA2 (by omega) hX rwT okT' hs hd) (by omega) (by omega) (fun h_17 q_18 => ?_)
      have zh_17 := q_18.1
      have H_19 : h_17.2 (53) = some (oB 3 [.int (th), .int (nI (β.1)), .ref (54), .ref (55), .int (nI (β.2.1)), .int (dq), .int (lq), .int (kk), .ref (56), .ref (57), .ref (58)]) := (q_18.2 _ (by omega)).trans H_11
      have H_20 : h_17.2 (54) = some (aI (60) (mf)) := (q_18.2 _ (by omega)).trans H_12
      have H_21 : h_17.2 (55) = some (aI (20) (sf)) := (q_18.2 _ (by omega)).trans H_13
      have H_22 : EA A h h_17 := EA_tr H_14 (EA_ext q_18)
      have H_23 : MS h_17 β := MS_ext q_18 (by omega) H_15
      have H_24 : h_17.2 (A) = some (aI (320) (f2)) := (q_18.2 _ (by omega)).trans hA2
      refine J_aload_n (i := 0) (pc := 67) dX3_pruned_67 rfl rfl ?_
      refine J_iload_n (i := 3) (pc := 68) dX3_pruned_68 rfl rfl ?_
      refine J_aload_n (i := 1) (pc := 69) dX3_pruned_69 rfl rfl ?_
      refine J_iconst (v := nI (5)) (pc := 70) dX3_pruned_70 rfl ?_
      refine J_iload_n (i := 2) (pc := 71) dX3_pruned_71 rfl rfl ?_
      refine J_imulN (pc := 72) dX3_pruned_72 ?_
      refine J_iconst (v := nI (3)) (pc := 73) dX3_pruned_73 rfl ?_
      refine J_iaddN (pc := 74) dX3_pruned_74 ?_
      refine J_iald (j := ((5) * (s)) + 3) (pc := 75) dX3_pruned_75 H_24 rfl (by omega) (by omega) ?_
      rw [show f2 (((5) * (s)) + 3) = nI (st) from (ns 3 (by decide)).trans hr.1.2.2.2.1]
      refine J_cVi (st := [.int (nI (rgT β d (prT β d l (X &&& mkC β c)) (X &&& mkC β c) + rgT β d (prT β d r (sdf X (X &&& mkC β c))) (sdf X (X &&& mkC β c))))]) (As := [.int (nI (X)), .int (nI (st))]) (pc := 76) dX3_pruned_76 okX3_ofSort q3_215 q3_217 qs2_2 (rfl : vwCl[3]? = some _) H_19 rfl (Nat.le_of_ble_eq_true rfl) (Nat.le_of_ble_eq_true rfl) (m_ofSort H_23 (by omega) (by omega)) ?_
      refine J_icmp_leN (tgt := 85) (pc := 79) dX3_pruned_79 (by decide) (by omega) (by omega) (fun c79 => ?_) (fun c79 => ?_)
      · skip
        refine J_aload_n (i := 1) (pc := 85) dX3_pruned_85 rfl rfl ?_
        refine J_iconst (v := nI (5)) (pc := 86) dX3_pruned_86 rfl ?_
        refine J_iload_n (i := 2) (pc := 87) dX3_pruned_87 rfl rfl ?_
        refine J_imulN (pc := 88) dX3_pruned_88 ?_
        refine J_iconst (v := nI (1)) (pc := 89) dX3_pruned_89 rfl ?_
        refine J_iast (j := (5) * (s)) (pc := 90) dX3_pruned_90 H_24 rfl (by omega) (by omega) ?_
        obtain ⟨h_25, eh_25⟩ : ∃ z : MH, z = (h_17.1, hset h_17.2 (A) (aI (320) (upd f2 ((5) * (s)) (nI (1))))) := ⟨_, rfl⟩
        refine J_heq (h2 := h_25) eh_25 ?_
        have zh_25 : h_25.1 = h_17.1 := by rw [eh_25]
        have H_26 : h_25.2 (53) = some (oB 3 [.int (th), .int (nI (β.1)), .ref (54), .ref (55), .int (nI (β.2.1)), .int (dq), .int (lq), .int (kk), .ref (56), .ref (57), .ref (58)]) := (hs_n eh_25 (by omega)).trans H_19
        have H_27 : h_25.2 (54) = some (aI (60) (mf)) := (hs_n eh_25 (by omega)).trans H_20
        have H_28 : h_25.2 (55) = some (aI (20) (sf)) := (hs_n eh_25 (by omega)).trans H_21
        have H_29 : EA A h h_25 := by rw [eh_25]; exact EA_st H_22 (by omega) rfl
        have H_30 : MS h_25 β := by rw [eh_25]; exact MS_oth (fun i i1 i2 => hset_n (by omega)) H_23
        have H_31 : h_25.2 (A) = some (aI (320) (upd f2 ((5) * (s)) (nI (1)))) := hs_s eh_25
        refine J_iload (i := 5) (pc := 91) dX3_pruned_91 rfl ?_
        refine J_iconst (v := nI (1)) (pc := 93) dX3_pruned_93 rfl ?_
        refine J_iaddN (pc := 94) dX3_pruned_94 ?_
        refine J_iret (ty := .int) (pc := 95) dX3_pruned_95 rfl rfl ?_
        refine ⟨?_, H_29, _, H_31, ?_, ?_⟩
        · rw [tuP, if_neg (show ¬ ofS β X st < rgT β d (prT β d l (X &&& mkC β c)) (X &&& mkC β c) + rgT β d (prT β d r (sdf X (X &&& mkC β c))) (sdf X (X &&& mkC β c)) from Nat.not_lt.mpr c79), elow2]
        · rw [prT, if_neg (show ¬ ofS β X st < rgT β d (prT β d l (X &&& mkC β c)) (X &&& mkC β c) + rgT β d (prT β d r (sdf X (X &&& mkC β c))) (sdf X (X &&& mkC β c)) from Nat.not_lt.mpr c79)]
          exact ⟨pk_us, (pk_un (by omega)).trans rwT.1.2.2.2.1, (pk_un (by omega)).trans rwT.1.2.2.2.2⟩
        · intro q e hq he
          have hqs : q ≠ s := fun z => hq (Or.inl z)
          rw [pk_un (by omega)]
          exact (fr2 q e (fun z => hq (Or.inr (Or.inr z))) he).trans (fr1 q e (fun z => hq (Or.inr (Or.inl z))) he)
      · skip
        refine J_iload (i := 5) (pc := 82) dX3_pruned_82 rfl ?_
        refine J_iret (ty := .int) (pc := 84) dX3_pruned_84 rfl rfl ?_
        refine ⟨?_, H_22, f2, H_24, ?_, fun q e hq he => (fr2 q e (fun z => hq (Or.inr (Or.inr z))) he).trans (fr1 q e (fun z => hq (Or.inr (Or.inl z))) he)⟩
        · rw [tuP, if_pos (show ofS β X st < rgT β d (prT β d l (X &&& mkC β c)) (X &&& mkC β c) + rgT β d (prT β d r (sdf X (X &&& mkC β c))) (sdf X (X &&& mkC β c)) from c79), Nat.add_zero, elow2]
        · rw [prT, if_pos (show ofS β X st < rgT β d (prT β d l (X &&& mkC β c)) (X &&& mkC β c) + rgT β d (prT β d r (sdf X (X &&& mkC β c))) (sdf X (X &&& mkC β c)) from c79)]
          exact rwT

/-- the reference's state -/
def MP (h : MH) (σ : ST) (ρ : Nat → Nat) (th : Int32) : Prop :=
  WF σ.1 ∧ okS σ ∧ 60 ≤ h.1 ∧ h.2 53 = some (oB 3 [.int th, .int (nI σ.1.1), .ref 54, .ref 55, .int (nI σ.1.2.1), .int (nI σ.2.1.2.1), .int (nI σ.2.1.2.2), .int (nI σ.2.1.1), .ref 56, .ref 57, .ref 58]) ∧
  (∃ mf, h.2 54 = some (aI 60 mf) ∧ ∀ m k, m < 3 → k < σ.1.1 → mf (3 * k + m) = nI (σ.1.2.2.1 m k)) ∧ (∃ sf, h.2 55 = some (aI 20 sf) ∧ ∀ k, k < σ.1.1 → sf k = nI (σ.1.2.2.2 k)) ∧
  (∃ rf, h.2 56 = some (aG 5 rf) ∧ ∀ i, i < σ.2.1.1 → rf i = some (ρ i)) ∧ (∃ pf, h.2 57 = some (aI 5 pf) ∧ ∀ i, i < σ.2.1.1 → pf i = σ.2.2.2.1 i) ∧ (∃ lf, h.2 58 = some (aI 5 lf) ∧ ∀ i, i < σ.2.1.1 → lf i = σ.2.2.2.2 i) ∧
  (∀ i, i < σ.2.1.1 → 60 ≤ ρ i ∧ ρ i < h.1 ∧ ∃ f, h.2 (ρ i) = some (aI 320 f) ∧ RW f 5 1 (σ.2.2.1 i)) ∧ ∀ i j, i < σ.2.1.1 → j < σ.2.1.1 → ρ i = ρ j → i = j
theorem MP_ext {h h' : MH} {σ : ST} {ρ : Nat → Nat} {th : Int32} (k : Ext h h') (hp : MP h σ ρ th) : MP h' σ ρ th := by
  obtain ⟨a1, a2, a3, a4, ⟨mf, a5, a5b⟩, ⟨sf, a6, a6b⟩, ⟨rf, a7, a7b⟩, ⟨pf, a8, a8b⟩, ⟨lf, a9, a9b⟩, a10, a11⟩ := hp
  have k1 := k.1
  refine ⟨a1, a2, by omega, (k.2 _ (by omega)).trans a4, ⟨mf, (k.2 _ (by omega)).trans a5, a5b⟩, ⟨sf, (k.2 _ (by omega)).trans a6, a6b⟩, ⟨rf, (k.2 _ (by omega)).trans a7, a7b⟩, ⟨pf, (k.2 _ (by omega)).trans a8, a8b⟩, ⟨lf, (k.2 _ (by omega)).trans a9, a9b⟩, fun i hi => ?_, a11⟩
  obtain ⟨b1, b2, f, b3, b4⟩ := a10 i hi
  exact ⟨b1, by omega, f, (k.2 _ b2).trans b3, b4⟩
theorem MP_MS {h : MH} {σ : ST} {ρ : Nat → Nat} {th : Int32} (hp : MP h σ ρ th) : MS h σ.1 := by
  obtain ⟨a1, a2, a3, a4, a5, a6, _⟩ := hp
  exact ⟨a1, ⟨_, _, _, _, a4⟩, a5, a6⟩
theorem cV_3 {σ : ST} (ok : okS σ) (a b c : Nat) : cV σ a b c 0 + cV σ a b c 1 + cV σ a b c 2 = σ.2.1.1 := by
  unfold cV
  have key : ∀ k p, p + k ≤ σ.2.1.1 → sumP (fun i => if saT 5 (σ.2.2.1 i) a b c = 0 then 1 else 0) k p + sumP (fun i => if saT 5 (σ.2.2.1 i) a b c = 1 then 1 else 0) k p + sumP (fun i => if saT 5 (σ.2.2.1 i) a b c = 2 then 1 else 0) k p = k := by
    intro k
    induction k with
    | zero => intro p _; rfl
    | succ k ih =>
      intro p hp
      have h1 := ih (p + 1) (by omega)
      have h2 := saT_le 5 (σ.2.2.1 p) a b c (ok.2.2.2 p (by omega)).1
      rw [sumP, sumP, sumP]
      obtain e | e | e : saT 5 (σ.2.2.1 p) a b c = 0 ∨ saT 5 (σ.2.2.1 p) a b c = 1 ∨ saT 5 (σ.2.2.1 p) a b c = 2 := by omega
      all_goals simp only [e]
      all_goals simp
      all_goals omega
  exact key _ 0 (by omega)
theorem vtF_eq (F : Nat → Nat) (k : Nat) (h : F 0 + F 1 + F 2 = k) : (vtF F 3 0 (none, 0)).1 = if k = 0 then none else some (if F (if F 0 < F 1 then 1 else 0) < F 2 then 2 else if F 0 < F 1 then 1 else 0) := by
  show (if (if (if 0 < F 0 then (some 0, F 0) else ((none : Option Nat), 0)).2 < F 1 then (some 1, F 1) else (if 0 < F 0 then (some 0, F 0) else ((none : Option Nat), 0))).2 < F 2 then (some 2, F 2) else (if (if 0 < F 0 then (some 0, F 0) else ((none : Option Nat), 0)).2 < F 1 then (some 1, F 1) else (if 0 < F 0 then (some 0, F 0) else ((none : Option Nat), 0)))).1 = _
  by_cases h0 : 0 < F 0
  · rw [if_pos h0, if_neg (show ¬ k = 0 by omega)]
    by_cases h1 : F 0 < F 1
    · rw [if_pos h1, if_pos (show (some 0, F 0).2 < F 1 from h1)]
      by_cases h2 : F 1 < F 2
      · rw [if_pos h2, if_pos (show (some 1, F 1).2 < F 2 from h2)]
      · rw [if_neg h2, if_neg (show ¬ (some 1, F 1).2 < F 2 from h2)]
    · rw [if_neg h1, if_neg (show ¬ (some 0, F 0).2 < F 1 from h1)]
      by_cases h2 : F 0 < F 2
      · rw [if_pos h2, if_pos (show (some 0, F 0).2 < F 2 from h2)]
      · rw [if_neg h2, if_neg (show ¬ (some 0, F 0).2 < F 2 from h2)]
  · rw [if_neg h0]
    by_cases h1 : 0 < F 1
    · rw [if_pos (show ((none : Option Nat), 0).2 < F 1 from h1), if_neg (show ¬ k = 0 by omega), if_pos (show F 0 < F 1 by omega)]
      by_cases h2 : F 1 < F 2
      · rw [if_pos h2, if_pos (show (some 1, F 1).2 < F 2 from h2)]
      · rw [if_neg h2, if_neg (show ¬ (some 1, F 1).2 < F 2 from h2)]
    · rw [if_neg (show ¬ ((none : Option Nat), 0).2 < F 1 from h1)]
      by_cases h2 : 0 < F 2
      · rw [if_pos (show ((none : Option Nat), 0).2 < F 2 from h2), if_neg (show ¬ k = 0 by omega), if_neg (show ¬ F 0 < F 1 by omega), if_pos (show F 0 < F 2 by omega)]
      · rw [if_neg (show ¬ ((none : Option Nat), 0).2 < F 2 from h2), if_pos (show k = 0 by omega)]
theorem vS_eq {σ : ST} (ok : okS σ) (a b c : Nat) : vS σ a b c = if σ.2.1.1 = 0 then none else some (if cV σ a b c (if cV σ a b c 0 < cV σ a b c 1 then 1 else 0) < cV σ a b c 2 then 2 else if cV σ a b c 0 < cV σ a b c 1 then 1 else 0) := vtF_eq _ _ (cV_3 ok a b c)

theorem sumP_last (f : Nat → Nat) (j : Nat) : sumP f (j + 1) 0 = sumP f j 0 + f j := by
  rw [sumP_add f j 1 0]
  show _ + (f (0 + j) + 0) = _
  rw [Nat.zero_add, Nat.add_zero]
theorem MP_oth' {h h' : MH} {σ : ST} {ρ : Nat → Nat} {th : Int32} {V : Nat} (hp : MP h σ ρ th) (k : ∀ i, i ≠ V → h'.2 i = h.2 i) (k1 : h'.1 = h.1) (hV : 60 ≤ V) (hV2 : ∀ i, i < σ.2.1.1 → ρ i ≠ V) : MP h' σ ρ th := by
  obtain ⟨a1, a2, a3, a4, ⟨mf, a5, a5b⟩, ⟨sf, a6, a6b⟩, ⟨rf, a7, a7b⟩, ⟨pf, a8, a8b⟩, ⟨lf, a9, a9b⟩, a10, a11⟩ := hp
  refine ⟨a1, a2, by omega, (k _ (by omega)).trans a4, ⟨mf, (k _ (by omega)).trans a5, a5b⟩, ⟨sf, (k _ (by omega)).trans a6, a6b⟩, ⟨rf, (k _ (by omega)).trans a7, a7b⟩, ⟨pf, (k _ (by omega)).trans a8, a8b⟩, ⟨lf, (k _ (by omega)).trans a9, a9b⟩, fun i hi => ?_, a11⟩
  obtain ⟨b1, b2, f, b3, b4⟩ := a10 i hi
  exact ⟨b1, by omega, f, (k _ (hV2 i hi)).trans b3, b4⟩

set_option maxHeartbeats 2000000 in
set_option maxRecDepth 20000 in
theorem vo_loop {g : GT} {dd : Nat} {σ : ST} {ρ : Nat → Nat} {th : Int32} {B V ma mb mc : Nat} {tf : Nat → Int32} {Q : RT → MH → Prop} (ht : ∀ k, k < 3 → tf k = nI (msr ma mb mc k)) (hx : ma ≤ 50) (hy : mb ≤ 50) (hz : mc ≤ 50) (hV : 60 ≤ V) (hVB : B ≠ V) (hVr : ∀ i, i < σ.2.1.1 → ρ i ≠ V) : ∀ (k j : Nat) (h : MH) (vf : Nat → Int32), j + k = σ.2.1.1 → MP h σ ρ th → h.2 B = some (aI 3 tf) → h.2 V = some (aI 3 vf) → (∀ s, s < 3 → vf s = nI (sumP (fun i => if saT 5 (σ.2.2.1 i) ma mb mc = s then 1 else 0) j 0)) → V < h.1 →
    (∀ h' vf', EA V h h' → h'.2 V = some (aI 3 vf') → (∀ s, s < 3 → vf' s = nI (cV σ ma mb mc s)) → J g (dd + 2) 0 0 mX3_voted 37 [(2, .ref V), (0, .ref 53), (1, .ref B)] [] h' Q) → J g (dd + 2) 0 0 mX3_voted 6 [(3, .int (nI (j))), (2, .ref (V)), (0, .ref (53)), (1, .ref (B))] [] h Q := by
  intro k
  induction k with
  | zero =>
    intro j h vf hj0 hP hB hVc hv hVl hq
    obtain ⟨a1, a2, a3, a4, ⟨mf, a5, a5b⟩, ⟨sf, a6, a6b⟩, ⟨rf, a7, a7b⟩, ⟨pf, a8, a8b⟩, ⟨lf, a9, a9b⟩, a10, a11⟩ := id hP
    obtain ⟨o1, o2, o3, o4⟩ := id a2
    have hM := MP_MS hP
    obtain ⟨hn, hc9, hm5, hs2⟩ := id a1
    have hp9 := pw_le hn
    have ej : j = σ.2.1.1 := by omega
    refine J_iload_n (i := 3) (pc := 6) dX3_voted_6 rfl rfl ?_
    refine J_aload_n (i := 0) (pc := 7) dX3_voted_7 rfl rfl ?_
    refine J_getf (k := 7) (pc := 8) dX3_voted_8 flX3_37 a4 rfl ?_
    refine J_icmp_geN (tgt := 37) (pc := 11) dX3_voted_11 (by decide) (by omega) (by omega) (fun c11 => ?_) (fun c11 => by exfalso; first | omega | simp_all)
    refine J_sub (lv' := [(2, .ref (V)), (0, .ref (53)), (1, .ref (B))]) [1, 2, 3] rfl ?_
    exact hq h vf EA_rfl hVc (fun s hs => by rw [hv s hs, ej]; rfl)
  | succ k ih =>
    intro j h vf hj0 hP hB hVc hv hVl hq
    obtain ⟨a1, a2, a3, a4, ⟨mf, a5, a5b⟩, ⟨sf, a6, a6b⟩, ⟨rf, a7, a7b⟩, ⟨pf, a8, a8b⟩, ⟨lf, a9, a9b⟩, a10, a11⟩ := id hP
    obtain ⟨o1, o2, o3, o4⟩ := id a2
    have hM := MP_MS hP
    obtain ⟨hn, hc9, hm5, hs2⟩ := id a1
    have hp9 := pw_le hn
    have hj : j < σ.2.1.1 := by omega
    obtain ⟨p60, plt, f, pc, prw⟩ := a10 j hj
    obtain ⟨okj, n39⟩ := o4 j hj
    have hsa := saT_le 5 (σ.2.2.1 j) ma mb mc okj
    have hcnt := sumP_le (f := (fun i => if saT 5 (σ.2.2.1 i) ma mb mc = saT 5 (σ.2.2.1 j) ma mb mc then 1 else 0)) (b := 1) j 0 (fun q _ _ => by show (if _ then 1 else 0) ≤ 1; split <;> omega)
    refine J_iload_n (i := 3) (pc := 6) dX3_voted_6 rfl rfl ?_
    refine J_aload_n (i := 0) (pc := 7) dX3_voted_7 rfl rfl ?_
    refine J_getf (k := 7) (pc := 8) dX3_voted_8 flX3_37 a4 rfl ?_
    refine J_icmp_geN (tgt := 37) (pc := 11) dX3_voted_11 (by decide) (by omega) (by omega) (fun c11 => by exfalso; first | omega | simp_all) (fun c11 => ?_)
    refine J_aload_n (i := 2) (pc := 14) dX3_voted_14 rfl rfl ?_
    refine J_aload_n (i := 0) (pc := 15) dX3_voted_15 rfl rfl ?_
    refine J_getf (k := 8) (pc := 16) dX3_voted_16 flX3_24 a4 rfl ?_
    refine J_iload_n (i := 3) (pc := 19) dX3_voted_19 rfl rfl ?_
    refine J_aald (j := j) (b := ρ j) (pc := 20) dX3_voted_20 (by decide) a7 rfl (by omega) (by omega) (a7b j hj) ?_
    refine J_iconst (v := nI (1)) (pc := 21) dX3_voted_21 rfl ?_
    refine J_aload_n (i := 1) (pc := 22) dX3_voted_22 rfl rfl ?_
    refine J_cSi (st := [.ref (V)]) (As := [.ref (ρ j), .int (nI (1)), .ref (B)]) (pc := 23) dX3_voted_23 okX3_said q4_31 q4_32 rfl (Nat.le_of_ble_eq_true rfl) (Nat.le_of_ble_eq_true rfl) (m_said pc hB ht hx hy hz prw okj (by decide) (by decide)) ?_
    refine J_dup2 (pc := 26) dX3_voted_26 rfl rfl ?_
    refine J_iald (j := saT 5 (σ.2.2.1 j) ma mb mc) (pc := 27) dX3_voted_27 hVc rfl (by omega) (by omega) ?_
    rw [show vf (saT 5 (σ.2.2.1 j) ma mb mc) = nI (sumP (fun i => if saT 5 (σ.2.2.1 i) ma mb mc = saT 5 (σ.2.2.1 j) ma mb mc then 1 else 0) j 0) from hv _ (by omega)]
    refine J_iconst (v := nI (1)) (pc := 28) dX3_voted_28 rfl ?_
    refine J_iaddN (pc := 29) dX3_voted_29 ?_
    refine J_iast (j := saT 5 (σ.2.2.1 j) ma mb mc) (pc := 30) dX3_voted_30 hVc rfl (by omega) (by omega) ?_
    obtain ⟨h_1, eh_1⟩ : ∃ z : MH, z = (h.1, hset h.2 (V) (aI (3) (upd vf (saT 5 (σ.2.2.1 j) ma mb mc) (nI ((sumP (fun i => if saT 5 (σ.2.2.1 i) ma mb mc = saT 5 (σ.2.2.1 j) ma mb mc then 1 else 0) j 0) + 1))))) := ⟨_, rfl⟩
    refine J_heq (h2 := h_1) eh_1 ?_
    have zh_1 : h_1.1 = h.1 := by rw [eh_1]
    have H_2 : h_1.2 (53) = some (oB 3 [.int (th), .int (nI (σ.1.1)), .ref (54), .ref (55), .int (nI (σ.1.2.1)), .int (nI (σ.2.1.2.1)), .int (nI (σ.2.1.2.2)), .int (nI (σ.2.1.1)), .ref (56), .ref (57), .ref (58)]) := (hs_n eh_1 (by omega)).trans a4
    have H_3 : h_1.2 (56) = some (aG (5) (rf)) := (hs_n eh_1 (by omega)).trans a7
    have H_4 : h_1.2 (B) = some (aI (3) (tf)) := (hs_n eh_1 (by omega)).trans hB
    have H_5 : h_1.2 (V) = some (aI (3) (upd vf (saT 5 (σ.2.2.1 j) ma mb mc) (nI ((sumP (fun i => if saT 5 (σ.2.2.1 i) ma mb mc = saT 5 (σ.2.2.1 j) ma mb mc then 1 else 0) j 0) + 1)))) := hs_s eh_1
    refine J_iinc (i := 3) (v := nI (j + 1)) (lv' := [(3, .int (nI (j + 1))), (2, .ref (V)), (0, .ref (53)), (1, .ref (B))]) (pc := 31) dX3_voted_31 rfl (nI_add (j) 1) (by decide) rfl ?_
    refine J_goto (tgt := 6) (pc := 34) dX3_voted_34 (by decide) ?_
    refine J_sub (lv' := [(3, .int (nI (j + 1))), (2, .ref (V)), (0, .ref (53)), (1, .ref (B))]) [0, 1, 2, 3] rfl ?_
    refine ih (j + 1) h_1 _ (by omega) (MP_oth' hP (fun i i1 => hs_n eh_1 (by omega)) (by rw [eh_1]) hV hVr) H_4 H_5 ?_ (by omega) (fun h' vf' x9 v9 w9 => hq h' vf' (EA_tr (by rw [eh_1]; exact EA_st EA_rfl (Or.inl rfl) rfl) x9) v9 w9)
    intro s hs
    rw [sumP_last]
    by_cases c : s = saT 5 (σ.2.2.1 j) ma mb mc
    · rw [c, pk_us, if_pos rfl]
    · rw [pk_un c, if_neg (fun q => c q.symm), Nat.add_zero]
      exact hv s hs

theorem Ext_EA {A : Nat} {h h1 h2 : MH} (k : Ext h h1) (l : EA A h1 h2) (hA : h.1 ≤ A) : Ext h h2 := ⟨Nat.le_trans k.1 l.1, fun i hi => (l.2 i (Nat.lt_of_lt_of_le hi k.1) (by omega)).trans (k.2 i hi)⟩
set_option maxHeartbeats 2000000 in
set_option maxRecDepth 20000 in
theorem m_voted {g : GT} {dd : Nat} {h : MH} {σ : ST} {ρ : Nat → Nat} {th : Int32} (hP : MP h σ ρ th) {B : Nat} {tf : Nat → Int32} {ma mb mc : Nat} (hB : h.2 B = some (aI 3 tf)) (hB2 : B < h.1) (ht : ∀ k, k < 3 → tf k = nI (msr ma mb mc k)) (hx : ma ≤ 50) (hy : mb ≤ 50) (hz : mc ≤ 50) : J g (dd + 2) 1 3 mX3_voted 0 (lv_args 0 [.ref 53, .ref B]) [] h (RH (enc (vS σ ma mb mc)) (fun h' => Ext h h')) := by
  obtain ⟨a1, a2, a3, a4, ⟨mf, a5, a5b⟩, ⟨sf, a6, a6b⟩, ⟨rf, a7, a7b⟩, ⟨pf, a8, a8b⟩, ⟨lf, a9, a9b⟩, a10, a11⟩ := id hP
  obtain ⟨o1, o2, o3, o4⟩ := id a2
  have hM := MP_MS hP
  obtain ⟨hn, hc9, hm5, hs2⟩ := id a1
  have hp9 := pw_le hn
  refine J_iconst (v := nI (3)) (pc := 0) dX3_voted_0 rfl ?_
  obtain ⟨A_1, eA_1⟩ : ∃ z : Nat, z = h.1 := ⟨_, rfl⟩
  obtain ⟨h_2, eh_2⟩ : ∃ z : MH, z = (A_1 + 1, hset h.2 A_1 (aI (3) (fun _ => 0))) := ⟨_, rfl⟩
  refine J_newIA (A := A_1) (h' := h_2) (n := 3) (ca' := 0) (sa' := 0) (pc := 1) dX3_voted_1 rfl (by decide) (by omega) (by omega) eA_1 eh_2 ?_
  have zh_2 : h_2.1 = A_1 + 1 := by rw [eh_2]
  have H_3 : h_2.2 (53) = some (oB 3 [.int (th), .int (nI (σ.1.1)), .ref (54), .ref (55), .int (nI (σ.1.2.1)), .int (nI (σ.2.1.2.1)), .int (nI (σ.2.1.2.2)), .int (nI (σ.2.1.1)), .ref (56), .ref (57), .ref (58)]) := (ha_n eh_2 (by omega)).trans a4
  have H_4 : h_2.2 (B) = some (aI (3) (tf)) := (ha_n eh_2 (by omega)).trans hB
  have H_5 : Ext h h_2 := Ext_new Ext_rfl eA_1 eh_2
  have H_6 : MP h_2 σ ρ th := MP_ext (Ext_new Ext_rfl eA_1 eh_2) hP
  have H_7 : h_2.2 (A_1) = some (aI (3) (fun _ => 0)) := ha_s eh_2
  refine J_astore_n (i := 2) (lv' := [(2, .ref (A_1)), (0, .ref (53)), (1, .ref (B))]) (pc := 3) dX3_voted_3 rfl (by decide) rfl ?_
  refine J_iconst (v := nI (0)) (pc := 4) dX3_voted_4 rfl ?_
  refine J_istore_n (i := 3) (lv' := [(3, .int (nI (0))), (2, .ref (A_1)), (0, .ref (53)), (1, .ref (B))]) (pc := 5) dX3_voted_5 rfl (by decide) rfl ?_
  refine J_sub (lv' := [(3, .int (nI (0))), (2, .ref (A_1)), (0, .ref (53)), (1, .ref (B))]) [0, 1, 2, 3] rfl ?_
  refine vo_loop ht hx hy hz (V := A_1) (by omega) (by omega) (fun i hi => by have := (a10 i hi).2.1; omega) σ.2.1.1 0 h_2 _ (Nat.zero_add _) H_6 H_4 H_7 (fun s hs => rfl) (by omega) ?_
  intro h9 vf9 xv vc9 vv9
  have hcv0 := cV_3 a2 ma mb mc
  have a49 := (xv.2 53 (by omega) (by omega)).trans H_3
  refine J_iconst (v := nI (0)) (pc := 37) dX3_voted_37 rfl ?_
  refine J_istore_n (i := 3) (lv' := [(3, .int (nI (0))), (2, .ref (A_1)), (0, .ref (53)), (1, .ref (B))]) (pc := 38) dX3_voted_38 rfl (by decide) rfl ?_
  refine J_iconst (v := nI (1)) (pc := 39) dX3_voted_39 rfl ?_
  refine J_istore (i := 4) (lv' := [(4, .int (nI (1))), (3, .int (nI (0))), (2, .ref (A_1)), (0, .ref (53)), (1, .ref (B))]) (pc := 40) dX3_voted_40 (by decide) rfl ?_
  refine J_iload (i := 4) (pc := 42) dX3_voted_42 rfl ?_
  refine J_iconst (v := nI (3)) (pc := 44) dX3_voted_44 rfl ?_
  refine J_icmp_geN (tgt := 67) (pc := 45) dX3_voted_45 (by decide) (by omega) (by omega) (fun c45 => by exfalso; first | omega | simp_all) (fun c45 => ?_)
  refine J_aload_n (i := 2) (pc := 48) dX3_voted_48 rfl rfl ?_
  refine J_iload (i := 4) (pc := 49) dX3_voted_49 rfl ?_
  refine J_iald (j := 1) (pc := 51) dX3_voted_51 vc9 rfl (by omega) (by omega) ?_
  rw [show vf9 1 = nI (cV σ ma mb mc 1) from vv9 1 (by decide)]
  refine J_aload_n (i := 2) (pc := 52) dX3_voted_52 rfl rfl ?_
  refine J_iload_n (i := 3) (pc := 53) dX3_voted_53 rfl rfl ?_
  refine J_iald (j := 0) (pc := 54) dX3_voted_54 vc9 rfl (by omega) (by omega) ?_
  rw [show vf9 0 = nI (cV σ ma mb mc 0) from vv9 0 (by decide)]
  refine J_icmp_leN (tgt := 61) (pc := 55) dX3_voted_55 (by decide) (by omega) (by omega) (fun c55 => ?_) (fun c55 => ?_)
  · skip
    refine J_iinc (i := 4) (v := nI (2)) (lv' := [(4, .int (nI (2))), (3, .int (nI (0))), (2, .ref (A_1)), (0, .ref (53)), (1, .ref (B))]) (pc := 61) dX3_voted_61 rfl rfl (by decide) rfl ?_
    refine J_goto (tgt := 42) (pc := 64) dX3_voted_64 (by decide) ?_
    refine J_iload (i := 4) (pc := 42) dX3_voted_42 rfl ?_
    refine J_iconst (v := nI (3)) (pc := 44) dX3_voted_44 rfl ?_
    refine J_icmp_geN (tgt := 67) (pc := 45) dX3_voted_45 (by decide) (by omega) (by omega) (fun c45 => by exfalso; first | omega | simp_all) (fun c45 => ?_)
    refine J_aload_n (i := 2) (pc := 48) dX3_voted_48 rfl rfl ?_
    refine J_iload (i := 4) (pc := 49) dX3_voted_49 rfl ?_
    refine J_iald (j := 2) (pc := 51) dX3_voted_51 vc9 rfl (by omega) (by omega) ?_
    rw [show vf9 2 = nI (cV σ ma mb mc 2) from vv9 2 (by decide)]
    refine J_aload_n (i := 2) (pc := 52) dX3_voted_52 rfl rfl ?_
    refine J_iload_n (i := 3) (pc := 53) dX3_voted_53 rfl rfl ?_
    refine J_iald (j := 0) (pc := 54) dX3_voted_54 vc9 rfl (by omega) (by omega) ?_
    rw [show vf9 0 = nI (cV σ ma mb mc 0) from vv9 0 (by decide)]
    refine J_icmp_leN (tgt := 61) (pc := 55) dX3_voted_55 (by decide) (by omega) (by omega) (fun c55 => ?_) (fun c55 => ?_)
    · skip
      refine J_iinc (i := 4) (v := nI (3)) (lv' := [(4, .int (nI (3))), (3, .int (nI (0))), (2, .ref (A_1)), (0, .ref (53)), (1, .ref (B))]) (pc := 61) dX3_voted_61 rfl rfl (by decide) rfl ?_
      refine J_goto (tgt := 42) (pc := 64) dX3_voted_64 (by decide) ?_
      refine J_iload (i := 4) (pc := 42) dX3_voted_42 rfl ?_
      refine J_iconst (v := nI (3)) (pc := 44) dX3_voted_44 rfl ?_
      refine J_icmp_geN (tgt := 67) (pc := 45) dX3_voted_45 (by decide) (by omega) (by omega) (fun c45 => ?_) (fun c45 => by exfalso; first | omega | simp_all)
      refine J_aload_n (i := 0) (pc := 67) dX3_voted_67 rfl rfl ?_
      refine J_getf (k := 7) (pc := 68) dX3_voted_68 flX3_37 a49 rfl ?_
      refine J_if_neN (tgt := 78) (pc := 71) dX3_voted_71 (by decide) (by omega) (fun c71 => ?_) (fun c71 => ?_)
      · skip
        refine J_iload_n (i := 3) (pc := 78) dX3_voted_78 rfl rfl ?_
        refine J_iret (ty := .int) (pc := 79) dX3_voted_79 rfl rfl ?_
        exact ⟨congrArg (fun z : Int32 => (Sum.inl (some (Value.int z)) : RT)) (by rw [vS_eq a2, if_neg c71, show (if cV σ ma mb mc (if cV σ ma mb mc 0 < cV σ ma mb mc 1 then 1 else 0) < cV σ ma mb mc 2 then 2 else if cV σ ma mb mc 0 < cV σ ma mb mc 1 then 1 else 0) = 0 from by (by_cases q1 : cV σ ma mb mc 0 < cV σ ma mb mc 1); (· rw [if_pos q1]; split <;> omega); (· rw [if_neg q1]; split <;> omega)]; rfl), Ext_EA H_5 xv (by omega)⟩
      · skip
        refine J_iconst (v := (-1)) (pc := 74) dX3_voted_74 rfl ?_
        refine J_goto (tgt := 79) (pc := 75) dX3_voted_75 (by decide) ?_
        refine J_iret (ty := .int) (pc := 79) dX3_voted_79 rfl rfl ?_
        exact ⟨congrArg (fun z : Int32 => (Sum.inl (some (Value.int z)) : RT)) (by rw [vS_eq a2, if_pos c71]; rfl), Ext_EA H_5 xv (by omega)⟩
    · skip
      refine J_iload (i := 4) (pc := 58) dX3_voted_58 rfl ?_
      refine J_istore_n (i := 3) (lv' := [(3, .int (nI (2))), (4, .int (nI (2))), (2, .ref (A_1)), (0, .ref (53)), (1, .ref (B))]) (pc := 60) dX3_voted_60 rfl (by decide) rfl ?_
      refine J_iinc (i := 4) (v := nI (3)) (lv' := [(4, .int (nI (3))), (3, .int (nI (2))), (2, .ref (A_1)), (0, .ref (53)), (1, .ref (B))]) (pc := 61) dX3_voted_61 rfl rfl (by decide) rfl ?_
      refine J_goto (tgt := 42) (pc := 64) dX3_voted_64 (by decide) ?_
      refine J_iload (i := 4) (pc := 42) dX3_voted_42 rfl ?_
      refine J_iconst (v := nI (3)) (pc := 44) dX3_voted_44 rfl ?_
      refine J_icmp_geN (tgt := 67) (pc := 45) dX3_voted_45 (by decide) (by omega) (by omega) (fun c45 => ?_) (fun c45 => by exfalso; first | omega | simp_all)
      refine J_aload_n (i := 0) (pc := 67) dX3_voted_67 rfl rfl ?_
      refine J_getf (k := 7) (pc := 68) dX3_voted_68 flX3_37 a49 rfl ?_
      refine J_if_neN (tgt := 78) (pc := 71) dX3_voted_71 (by decide) (by omega) (fun c71 => ?_) (fun c71 => ?_)
      · skip
        refine J_iload_n (i := 3) (pc := 78) dX3_voted_78 rfl rfl ?_
        refine J_iret (ty := .int) (pc := 79) dX3_voted_79 rfl rfl ?_
        exact ⟨congrArg (fun z : Int32 => (Sum.inl (some (Value.int z)) : RT)) (by rw [vS_eq a2, if_neg c71, show (if cV σ ma mb mc (if cV σ ma mb mc 0 < cV σ ma mb mc 1 then 1 else 0) < cV σ ma mb mc 2 then 2 else if cV σ ma mb mc 0 < cV σ ma mb mc 1 then 1 else 0) = 2 from by (by_cases q1 : cV σ ma mb mc 0 < cV σ ma mb mc 1); (· rw [if_pos q1]; split <;> omega); (· rw [if_neg q1]; split <;> omega)]; rfl), Ext_EA H_5 xv (by omega)⟩
      · skip
        refine J_iconst (v := (-1)) (pc := 74) dX3_voted_74 rfl ?_
        refine J_goto (tgt := 79) (pc := 75) dX3_voted_75 (by decide) ?_
        refine J_iret (ty := .int) (pc := 79) dX3_voted_79 rfl rfl ?_
        exact ⟨congrArg (fun z : Int32 => (Sum.inl (some (Value.int z)) : RT)) (by rw [vS_eq a2, if_pos c71]; rfl), Ext_EA H_5 xv (by omega)⟩
  · skip
    refine J_iload (i := 4) (pc := 58) dX3_voted_58 rfl ?_
    refine J_istore_n (i := 3) (lv' := [(3, .int (nI (1))), (4, .int (nI (1))), (2, .ref (A_1)), (0, .ref (53)), (1, .ref (B))]) (pc := 60) dX3_voted_60 rfl (by decide) rfl ?_
    refine J_iinc (i := 4) (v := nI (2)) (lv' := [(4, .int (nI (2))), (3, .int (nI (1))), (2, .ref (A_1)), (0, .ref (53)), (1, .ref (B))]) (pc := 61) dX3_voted_61 rfl rfl (by decide) rfl ?_
    refine J_goto (tgt := 42) (pc := 64) dX3_voted_64 (by decide) ?_
    refine J_iload (i := 4) (pc := 42) dX3_voted_42 rfl ?_
    refine J_iconst (v := nI (3)) (pc := 44) dX3_voted_44 rfl ?_
    refine J_icmp_geN (tgt := 67) (pc := 45) dX3_voted_45 (by decide) (by omega) (by omega) (fun c45 => by exfalso; first | omega | simp_all) (fun c45 => ?_)
    refine J_aload_n (i := 2) (pc := 48) dX3_voted_48 rfl rfl ?_
    refine J_iload (i := 4) (pc := 49) dX3_voted_49 rfl ?_
    refine J_iald (j := 2) (pc := 51) dX3_voted_51 vc9 rfl (by omega) (by omega) ?_
    rw [show vf9 2 = nI (cV σ ma mb mc 2) from vv9 2 (by decide)]
    refine J_aload_n (i := 2) (pc := 52) dX3_voted_52 rfl rfl ?_
    refine J_iload_n (i := 3) (pc := 53) dX3_voted_53 rfl rfl ?_
    refine J_iald (j := 1) (pc := 54) dX3_voted_54 vc9 rfl (by omega) (by omega) ?_
    rw [show vf9 1 = nI (cV σ ma mb mc 1) from vv9 1 (by decide)]
    refine J_icmp_leN (tgt := 61) (pc := 55) dX3_voted_55 (by decide) (by omega) (by omega) (fun c55 => ?_) (fun c55 => ?_)
    · skip
      refine J_iinc (i := 4) (v := nI (3)) (lv' := [(4, .int (nI (3))), (3, .int (nI (1))), (2, .ref (A_1)), (0, .ref (53)), (1, .ref (B))]) (pc := 61) dX3_voted_61 rfl rfl (by decide) rfl ?_
      refine J_goto (tgt := 42) (pc := 64) dX3_voted_64 (by decide) ?_
      refine J_iload (i := 4) (pc := 42) dX3_voted_42 rfl ?_
      refine J_iconst (v := nI (3)) (pc := 44) dX3_voted_44 rfl ?_
      refine J_icmp_geN (tgt := 67) (pc := 45) dX3_voted_45 (by decide) (by omega) (by omega) (fun c45 => ?_) (fun c45 => by exfalso; first | omega | simp_all)
      refine J_aload_n (i := 0) (pc := 67) dX3_voted_67 rfl rfl ?_
      refine J_getf (k := 7) (pc := 68) dX3_voted_68 flX3_37 a49 rfl ?_
      refine J_if_neN (tgt := 78) (pc := 71) dX3_voted_71 (by decide) (by omega) (fun c71 => ?_) (fun c71 => ?_)
      · skip
        refine J_iload_n (i := 3) (pc := 78) dX3_voted_78 rfl rfl ?_
        refine J_iret (ty := .int) (pc := 79) dX3_voted_79 rfl rfl ?_
        exact ⟨congrArg (fun z : Int32 => (Sum.inl (some (Value.int z)) : RT)) (by rw [vS_eq a2, if_neg c71, show (if cV σ ma mb mc (if cV σ ma mb mc 0 < cV σ ma mb mc 1 then 1 else 0) < cV σ ma mb mc 2 then 2 else if cV σ ma mb mc 0 < cV σ ma mb mc 1 then 1 else 0) = 1 from by (by_cases q1 : cV σ ma mb mc 0 < cV σ ma mb mc 1); (· rw [if_pos q1]; split <;> omega); (· rw [if_neg q1]; split <;> omega)]; rfl), Ext_EA H_5 xv (by omega)⟩
      · skip
        refine J_iconst (v := (-1)) (pc := 74) dX3_voted_74 rfl ?_
        refine J_goto (tgt := 79) (pc := 75) dX3_voted_75 (by decide) ?_
        refine J_iret (ty := .int) (pc := 79) dX3_voted_79 rfl rfl ?_
        exact ⟨congrArg (fun z : Int32 => (Sum.inl (some (Value.int z)) : RT)) (by rw [vS_eq a2, if_pos c71]; rfl), Ext_EA H_5 xv (by omega)⟩
    · skip
      refine J_iload (i := 4) (pc := 58) dX3_voted_58 rfl ?_
      refine J_istore_n (i := 3) (lv' := [(3, .int (nI (2))), (4, .int (nI (2))), (2, .ref (A_1)), (0, .ref (53)), (1, .ref (B))]) (pc := 60) dX3_voted_60 rfl (by decide) rfl ?_
      refine J_iinc (i := 4) (v := nI (3)) (lv' := [(4, .int (nI (3))), (3, .int (nI (2))), (2, .ref (A_1)), (0, .ref (53)), (1, .ref (B))]) (pc := 61) dX3_voted_61 rfl rfl (by decide) rfl ?_
      refine J_goto (tgt := 42) (pc := 64) dX3_voted_64 (by decide) ?_
      refine J_iload (i := 4) (pc := 42) dX3_voted_42 rfl ?_
      refine J_iconst (v := nI (3)) (pc := 44) dX3_voted_44 rfl ?_
      refine J_icmp_geN (tgt := 67) (pc := 45) dX3_voted_45 (by decide) (by omega) (by omega) (fun c45 => ?_) (fun c45 => by exfalso; first | omega | simp_all)
      refine J_aload_n (i := 0) (pc := 67) dX3_voted_67 rfl rfl ?_
      refine J_getf (k := 7) (pc := 68) dX3_voted_68 flX3_37 a49 rfl ?_
      refine J_if_neN (tgt := 78) (pc := 71) dX3_voted_71 (by decide) (by omega) (fun c71 => ?_) (fun c71 => ?_)
      · skip
        refine J_iload_n (i := 3) (pc := 78) dX3_voted_78 rfl rfl ?_
        refine J_iret (ty := .int) (pc := 79) dX3_voted_79 rfl rfl ?_
        exact ⟨congrArg (fun z : Int32 => (Sum.inl (some (Value.int z)) : RT)) (by rw [vS_eq a2, if_neg c71, show (if cV σ ma mb mc (if cV σ ma mb mc 0 < cV σ ma mb mc 1 then 1 else 0) < cV σ ma mb mc 2 then 2 else if cV σ ma mb mc 0 < cV σ ma mb mc 1 then 1 else 0) = 2 from by (by_cases q1 : cV σ ma mb mc 0 < cV σ ma mb mc 1); (· rw [if_pos q1]; split <;> omega); (· rw [if_neg q1]; split <;> omega)]; rfl), Ext_EA H_5 xv (by omega)⟩
      · skip
        refine J_iconst (v := (-1)) (pc := 74) dX3_voted_74 rfl ?_
        refine J_goto (tgt := 79) (pc := 75) dX3_voted_75 (by decide) ?_
        refine J_iret (ty := .int) (pc := 79) dX3_voted_79 rfl rfl ?_
        exact ⟨congrArg (fun z : Int32 => (Sum.inl (some (Value.int z)) : RT)) (by rw [vS_eq a2, if_pos c71]; rfl), Ext_EA H_5 xv (by omega)⟩

