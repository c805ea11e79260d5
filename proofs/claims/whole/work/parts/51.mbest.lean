-- the reference: what a cut gains, the best cut
theorem lgc_gt {a b : Nat} (ha : a < 2 ^ 63) (hb : b < 2 ^ 63) : 0 < lg_cmp (lN a) (lN b) ↔ b < a := by
  rw [← i32_not_le, lgc_le ha hb]
  omega
theorem sub_eq {a b : Nat} (hb : b < 2 ^ 20) (h : ∀ k, a.testBit k = true → b.testBit k = true) (hc : cnt b ≤ cnt a) : a = b := by
  have h1 := cnt_split b a
  have e : b &&& a = a := by
    apply Nat.eq_of_testBit_eq
    intro i
    rw [Nat.testBit_and]
    cases q : a.testBit i
    · rw [Bool.and_false]
    · rw [h i q]; rfl
  rw [e] at h1
  have h2 := (cnt_0 (Nat.lt_of_le_of_lt (sdf_le b a) hb)).mp (by omega)
  apply Nat.eq_of_testBit_eq
  intro i
  have h3 : (sdf b a).testBit i = false := by rw [h2, Nat.zero_testBit]
  rw [sdf_bit] at h3
  cases q : a.testBit i
  · cases q2 : b.testBit i
    · rfl
    · rw [q, q2] at h3; cases h3
  · rw [h i q]
theorem prev_sub {β : BT} {s m x k : Nat} (h : (prevS β s m x).testBit k = true) : (s &&& mkL β m x).testBit k = true := by
  cases x with
  | zero => rw [prevS, Nat.zero_testBit] at h; cases h
  | succ x =>
    rw [prevS, Nat.testBit_and, Bool.and_eq_true] at h
    rw [Nat.testBit_and, Bool.and_eq_true]
    refine ⟨h.1, ?_⟩
    have e1 : (mkL β m x).testBit k = (decide (k < β.1) && decide (β.2.2.1 m k ≤ x)) := msk_bit _ _ _
    have e2 : (mkL β m (x + 1)).testBit k = (decide (k < β.1) && decide (β.2.2.1 m k ≤ x + 1)) := msk_bit _ _ _
    have h2 := h.2
    rw [e1, Bool.and_eq_true, decide_eq_true_eq, decide_eq_true_eq] at h2
    rw [e2, Bool.and_eq_true, decide_eq_true_eq, decide_eq_true_eq]
    exact ⟨h2.1, by omega⟩
theorem prev_cnt {β : BT} {s m x : Nat} : cnt (prevS β s m x) ≤ cnt (s &&& mkL β m x) := pcn_mono (fun k _ h => prev_sub h)
theorem prev_lt {β : BT} {s m x : Nat} (hs : s < 2 ^ 20) (h : s &&& mkL β m x ≠ prevS β s m x) : cnt (prevS β s m x) < cnt (s &&& mkL β m x) := by
  rcases Nat.lt_or_ge (cnt (prevS β s m x)) (cnt (s &&& mkL β m x)) with e | e
  · exact e
  · exact absurd (sub_eq (Nat.lt_of_le_of_lt Nat.and_le_left hs) (fun k hk => prev_sub hk) e).symm h

theorem m_lowP {g : GT} {d : Nat} {h : MH} {β : BT} (hM : MS h β) {s m x : Nat} (hs : s < 2 ^ 20) (hm : m < 3) (hx : x < 1000) : J g (d + 1) 0 0 mX3_lowOf 0 (lv_args 0 [.ref 53, .int (nI s), .int (nI m), .int (nI x - nI 1)]) [] h (RI (nI (prevS β s m x)) h) := by
  cases x with
  | zero => exact m_lowZ hM hs hm
  | succ x =>
    rw [pk_sub (by omega), show x + 1 - 1 = x by omega]
    exact m_lowOf hM hs hm (by omega)

set_option maxHeartbeats 2000000 in
set_option maxRecDepth 20000 in
theorem m_gainA {g : GT} {d : Nat} {h : MH} {β : BT} (hM : MS h β) {s m x : Nat} (hz : 60 ≤ h.1) (hs : s < 2 ^ β.1) (hm : m < 3) (hx : x < 1000) (h1 : s &&& mkL β m x ≠ 0) (h2 : sdf s (s &&& mkL β m x) ≠ 0) : J g (d + 3) 1 2 mX3_gainOf 0 (lv_args 0 [.ref 53, .int (nI s), .int (nI m), .int (nI x)]) [] h (RG (.ref h.1) (fun h' => Ext h h' ∧ h'.1 = h.1 + 1 ∧ ∃ f, h'.2 h.1 = some (aJ 2 f) ∧ f 0 = lN (gA β s (s &&& mkL β m x)) ∧ f 1 = lN (gB s (s &&& mkL β m x)))) := by
  obtain ⟨hW, ⟨th, dq, lq, kk, m53⟩, ⟨mf, m54, em⟩, ⟨sf, m55, es⟩⟩ := id hM
  obtain ⟨hn, hc9, hm5, hs2⟩ := id hW
  have hp9 := pw_le hn
  have hs20 := lt20 hW hs
  have hA0 : 60 ≤ h.1 := hz
  refine J_aload_n (i := 0) (pc := 0) dX3_gainOf_0 rfl rfl ?_
  refine J_iload_n (i := 1) (pc := 1) dX3_gainOf_1 rfl rfl ?_
  refine J_iload_n (i := 2) (pc := 2) dX3_gainOf_2 rfl rfl ?_
  refine J_iload_n (i := 3) (pc := 3) dX3_gainOf_3 rfl rfl ?_
  refine J_cVi (st := []) (As := [.int (nI (s)), .int (nI (m)), .int (nI (x))]) (pc := 4) dX3_gainOf_4 okX3_lowOf q3_227 q3_229 qs2_5 (rfl : vwCl[3]? = some _) m53 rfl (Nat.le_of_ble_eq_true rfl) (Nat.le_of_ble_eq_true rfl) (m_lowOf hM (by omega) (by omega) (by omega)) ?_
  obtain ⟨low, elow⟩ : ∃ z : Nat, z = s &&& mkL β m x := ⟨_, rfl⟩
  rw [← elow]
  have hlow : low ≤ s := by rw [elow]; exact Nat.and_le_left
  have hcl := cnt_le low
  refine J_istore (i := 4) (lv' := [(4, .int (nI (low))), (0, .ref (53)), (1, .int (nI (s))), (2, .int (nI (m))), (3, .int (nI (x)))]) (pc := 7) dX3_gainOf_7 (by decide) rfl ?_
  refine J_iload_n (i := 1) (pc := 9) dX3_gainOf_9 rfl rfl ?_
  refine J_iload (i := 4) (pc := 10) dX3_gainOf_10 rfl ?_
  refine J_iconst (v := (-1)) (pc := 12) dX3_gainOf_12 rfl ?_
  refine J_ixor (pc := 13) dX3_gainOf_13 ?_
  refine J_iandX (pc := 14) dX3_gainOf_14 ?_
  obtain ⟨hi, ehi⟩ : ∃ z : Nat, z = sdf (s) (low) := ⟨_, rfl⟩
  rw [← ehi]
  have hhi : hi ≤ s := by rw [ehi]; exact sdf_le s low
  have hch := cnt_le hi
  refine J_istore (i := 5) (lv' := [(5, .int (nI (hi))), (4, .int (nI (low))), (0, .ref (53)), (1, .int (nI (s))), (2, .int (nI (m))), (3, .int (nI (x)))]) (pc := 15) dX3_gainOf_15 (by decide) rfl ?_
  refine J_iload (i := 4) (pc := 17) dX3_gainOf_17 rfl ?_
  refine J_if_eqN (tgt := 27) (pc := 19) dX3_gainOf_19 (by decide) (by omega) (fun c19 => absurd c19 (by rw [elow]; exact h1)) (fun c19 => ?_)
  refine J_iload (i := 5) (pc := 22) dX3_gainOf_22 rfl ?_
  refine J_if_neN (tgt := 39) (pc := 24) dX3_gainOf_24 (by decide) (by omega) (fun c24 => ?_) (fun c24 => absurd c24 (fun q => h2 (by rw [← elow, ← ehi]; exact q)))
  refine J_aload_n (i := 0) (pc := 39) dX3_gainOf_39 rfl rfl ?_
  refine J_iload (i := 4) (pc := 40) dX3_gainOf_40 rfl ?_
  refine J_cVi (st := []) (As := [.int (nI (low))]) (pc := 42) dX3_gainOf_42 okX3_many q3_219 q3_221 qs2_3 (rfl : vwCl[3]? = some _) m53 rfl (Nat.le_of_ble_eq_true rfl) (Nat.le_of_ble_eq_true rfl) (m_many hM (by omega)) ?_
  refine J_i2lN (pc := 45) dX3_gainOf_45 (by omega) ?_
  refine J_lstore (i := 6) (lv' := [(6, .long (lN (cnt low))), (5, .int (nI (hi))), (4, .int (nI (low))), (0, .ref (53)), (1, .int (nI (s))), (2, .int (nI (m))), (3, .int (nI (x)))]) (pc := 46) dX3_gainOf_46 (by decide) rfl ?_
  refine J_aload_n (i := 0) (pc := 48) dX3_gainOf_48 rfl rfl ?_
  refine J_iload (i := 5) (pc := 49) dX3_gainOf_49 rfl ?_
  refine J_cVi (st := []) (As := [.int (nI (hi))]) (pc := 51) dX3_gainOf_51 okX3_many q3_219 q3_221 qs2_3 (rfl : vwCl[3]? = some _) m53 rfl (Nat.le_of_ble_eq_true rfl) (Nat.le_of_ble_eq_true rfl) (m_many hM (by omega)) ?_
  refine J_i2lN (pc := 54) dX3_gainOf_54 (by omega) ?_
  refine J_lstore (i := 8) (lv' := [(8, .long (lN (cnt hi))), (6, .long (lN (cnt low))), (5, .int (nI (hi))), (4, .int (nI (low))), (0, .ref (53)), (1, .int (nI (s))), (2, .int (nI (m))), (3, .int (nI (x)))]) (pc := 55) dX3_gainOf_55 (by decide) rfl ?_
  refine J_iconst (v := nI (2)) (pc := 57) dX3_gainOf_57 rfl ?_
  obtain ⟨A_1, eA_1⟩ : ∃ z : Nat, z = h.1 := ⟨_, rfl⟩
  obtain ⟨h_2, eh_2⟩ : ∃ z : MH, z = (A_1 + 1, hset h.2 A_1 (aJ (2) (fun _ => 0))) := ⟨_, rfl⟩
  refine J_newJA (A := A_1) (h' := h_2) (n := 2) (ca' := 0) (sa' := 0) (pc := 58) dX3_gainOf_58 rfl (by decide) (by omega) (by omega) eA_1 eh_2 ?_
  have zh_2 : h_2.1 = A_1 + 1 := by rw [eh_2]
  have H_3 : h_2.2 (53) = some (oB 3 [.int (th), .int (nI (β.1)), .ref (54), .ref (55), .int (nI (β.2.1)), .int (dq), .int (lq), .int (kk), .ref (56), .ref (57), .ref (58)]) := (ha_n eh_2 (by omega)).trans m53
  have H_4 : h_2.2 (54) = some (aI (60) (mf)) := (ha_n eh_2 (by omega)).trans m54
  have H_5 : h_2.2 (55) = some (aI (20) (sf)) := (ha_n eh_2 (by omega)).trans m55
  have H_6 : Ext h h_2 := Ext_new Ext_rfl eA_1 eh_2
  have H_7 : MS h_2 β := MS_oth (fun i i1 i2 => ha_n eh_2 (by omega)) hM
  have H_8 : h_2.2 (A_1) = some (aJ (2) (fun _ => 0)) := ha_s eh_2
  refine J_dup (pc := 60) dX3_gainOf_60 rfl ?_
  refine J_iconst (v := nI (0)) (pc := 61) dX3_gainOf_61 rfl ?_
  refine J_aload_n (i := 0) (pc := 62) dX3_gainOf_62 rfl rfl ?_
  refine J_iload (i := 4) (pc := 63) dX3_gainOf_63 rfl ?_
  refine J_cVl (st := [.int (nI (0)), .ref (A_1), .ref (A_1)]) (As := [.int (nI (low))]) (pc := 65) dX3_gainOf_65 okX3_squares q3_239 q4_1 qs2_8 (rfl : vwCl[3]? = some _) H_3 rfl (Nat.le_of_ble_eq_true rfl) (Nat.le_of_ble_eq_true rfl) (m_squares H_7 (by omega)) ?_
  refine J_lload (i := 8) (pc := 68) dX3_gainOf_68 rfl ?_
  refine J_lmulN (pc := 70) dX3_gainOf_70 ?_
  refine J_lload (i := 6) (pc := 71) dX3_gainOf_71 rfl ?_
  refine J_lload (i := 8) (pc := 73) dX3_gainOf_73 rfl ?_
  refine J_laddN (pc := 75) dX3_gainOf_75 ?_
  refine J_lmulN (pc := 76) dX3_gainOf_76 ?_
  refine J_aload_n (i := 0) (pc := 77) dX3_gainOf_77 rfl rfl ?_
  refine J_iload (i := 5) (pc := 78) dX3_gainOf_78 rfl ?_
  refine J_cVl (st := [.long (lN (((sqs β low) * (cnt hi)) * ((cnt low) + (cnt hi)))), .int (nI (0)), .ref (A_1), .ref (A_1)]) (As := [.int (nI (hi))]) (pc := 80) dX3_gainOf_80 okX3_squares q3_239 q4_1 qs2_8 (rfl : vwCl[3]? = some _) H_3 rfl (Nat.le_of_ble_eq_true rfl) (Nat.le_of_ble_eq_true rfl) (m_squares H_7 (by omega)) ?_
  refine J_lload (i := 6) (pc := 83) dX3_gainOf_83 rfl ?_
  refine J_lmulN (pc := 85) dX3_gainOf_85 ?_
  refine J_lload (i := 6) (pc := 86) dX3_gainOf_86 rfl ?_
  refine J_lload (i := 8) (pc := 88) dX3_gainOf_88 rfl ?_
  refine J_laddN (pc := 90) dX3_gainOf_90 ?_
  refine J_lmulN (pc := 91) dX3_gainOf_91 ?_
  refine J_laddN (pc := 92) dX3_gainOf_92 ?_
  refine J_aload_n (i := 0) (pc := 93) dX3_gainOf_93 rfl rfl ?_
  refine J_iload_n (i := 1) (pc := 94) dX3_gainOf_94 rfl rfl ?_
  refine J_cVl (st := [.long (lN ((((sqs β low) * (cnt hi)) * ((cnt low) + (cnt hi))) + (((sqs β hi) * (cnt low)) * ((cnt low) + (cnt hi))))), .int (nI (0)), .ref (A_1), .ref (A_1)]) (As := [.int (nI (s))]) (pc := 95) dX3_gainOf_95 okX3_squares q3_239 q4_1 qs2_8 (rfl : vwCl[3]? = some _) H_3 rfl (Nat.le_of_ble_eq_true rfl) (Nat.le_of_ble_eq_true rfl) (m_squares H_7 (by omega)) ?_
  refine J_lload (i := 6) (pc := 98) dX3_gainOf_98 rfl ?_
  refine J_lmulN (pc := 100) dX3_gainOf_100 ?_
  refine J_lload (i := 8) (pc := 101) dX3_gainOf_101 rfl ?_
  refine J_lmulN (pc := 103) dX3_gainOf_103 ?_
  have hge := gA_ge β s (mkL β m x)
  have hcs := cnt_split2 s (mkL β m x)
  rw [← elow, ← ehi] at hge hcs
  rw [hcs] at hge
  refine J_lsubN (pc := 104) dX3_gainOf_104 ?_ ?_
  · exact hge
  refine J_last (j := 0) (pc := 105) dX3_gainOf_105 H_8 rfl (by omega) (by omega) ?_
  obtain ⟨h_9, eh_9⟩ : ∃ z : MH, z = (h_2.1, hset h_2.2 (A_1) (aJ (2) (vp_updL ((fun _ => 0)) (0) (lN (((((sqs β low) * (cnt hi)) * ((cnt low) + (cnt hi))) + (((sqs β hi) * (cnt low)) * ((cnt low) + (cnt hi)))) - (((sqs β s) * (cnt low)) * (cnt hi))))))) := ⟨_, rfl⟩
  refine J_heq (h2 := h_9) eh_9 ?_
  have zh_9 : h_9.1 = h_2.1 := by rw [eh_9]
  have H_10 : h_9.2 (53) = some (oB 3 [.int (th), .int (nI (β.1)), .ref (54), .ref (55), .int (nI (β.2.1)), .int (dq), .int (lq), .int (kk), .ref (56), .ref (57), .ref (58)]) := (hs_n eh_9 (by omega)).trans H_3
  have H_11 : h_9.2 (54) = some (aI (60) (mf)) := (hs_n eh_9 (by omega)).trans H_4
  have H_12 : h_9.2 (55) = some (aI (20) (sf)) := (hs_n eh_9 (by omega)).trans H_5
  have H_13 : Ext h h_9 := by rw [eh_9]; exact Ext_st H_6 (by omega) rfl
  have H_14 : MS h_9 β := by rw [eh_9]; exact MS_oth (fun i i1 i2 => hset_n (by omega)) H_7
  have H_15 : h_9.2 (A_1) = some (aJ (2) (vp_updL ((fun _ => 0)) (0) (lN (((((sqs β low) * (cnt hi)) * ((cnt low) + (cnt hi))) + (((sqs β hi) * (cnt low)) * ((cnt low) + (cnt hi)))) - (((sqs β s) * (cnt low)) * (cnt hi)))))) := hs_s eh_9
  refine J_dup (pc := 106) dX3_gainOf_106 rfl ?_
  refine J_iconst (v := nI (1)) (pc := 107) dX3_gainOf_107 rfl ?_
  refine J_lload (i := 6) (pc := 108) dX3_gainOf_108 rfl ?_
  refine J_lload (i := 8) (pc := 110) dX3_gainOf_110 rfl ?_
  refine J_lmulN (pc := 112) dX3_gainOf_112 ?_
  refine J_lload (i := 6) (pc := 113) dX3_gainOf_113 rfl ?_
  refine J_lload (i := 8) (pc := 115) dX3_gainOf_115 rfl ?_
  refine J_laddN (pc := 117) dX3_gainOf_117 ?_
  refine J_lmulN (pc := 118) dX3_gainOf_118 ?_
  refine J_last (j := 1) (pc := 119) dX3_gainOf_119 H_15 rfl (by omega) (by omega) ?_
  obtain ⟨h_16, eh_16⟩ : ∃ z : MH, z = (h_9.1, hset h_9.2 (A_1) (aJ (2) (vp_updL (vp_updL ((fun _ => 0)) (0) (lN (((((sqs β low) * (cnt hi)) * ((cnt low) + (cnt hi))) + (((sqs β hi) * (cnt low)) * ((cnt low) + (cnt hi)))) - (((sqs β s) * (cnt low)) * (cnt hi))))) (1) (lN (((cnt low) * (cnt hi)) * ((cnt low) + (cnt hi))))))) := ⟨_, rfl⟩
  refine J_heq (h2 := h_16) eh_16 ?_
  have zh_16 : h_16.1 = h_9.1 := by rw [eh_16]
  have H_17 : h_16.2 (53) = some (oB 3 [.int (th), .int (nI (β.1)), .ref (54), .ref (55), .int (nI (β.2.1)), .int (dq), .int (lq), .int (kk), .ref (56), .ref (57), .ref (58)]) := (hs_n eh_16 (by omega)).trans H_10
  have H_18 : h_16.2 (54) = some (aI (60) (mf)) := (hs_n eh_16 (by omega)).trans H_11
  have H_19 : h_16.2 (55) = some (aI (20) (sf)) := (hs_n eh_16 (by omega)).trans H_12
  have H_20 : Ext h h_16 := by rw [eh_16]; exact Ext_st H_13 (by omega) rfl
  have H_21 : MS h_16 β := by rw [eh_16]; exact MS_oth (fun i i1 i2 => hset_n (by omega)) H_14
  have H_22 : h_16.2 (A_1) = some (aJ (2) (vp_updL (vp_updL ((fun _ => 0)) (0) (lN (((((sqs β low) * (cnt hi)) * ((cnt low) + (cnt hi))) + (((sqs β hi) * (cnt low)) * ((cnt low) + (cnt hi)))) - (((sqs β s) * (cnt low)) * (cnt hi))))) (1) (lN (((cnt low) * (cnt hi)) * ((cnt low) + (cnt hi)))))) := hs_s eh_16
  refine J_aret (pc := 120) dX3_gainOf_120 rfl ?_
  exact ⟨by rw [eA_1], H_20, by omega, _, by rw [← eA_1]; exact H_22, by (rw [pk_uLn (by decide), pk_uLs, gA, ← ehi, hcs]), by (rw [pk_uLs, gB, ← ehi, hcs]; congr 1; rw [Nat.mul_comm (cnt low * cnt hi), ← Nat.mul_assoc])⟩
theorem m_gainZ {g : GT} {d : Nat} {h : MH} {β : BT} (hM : MS h β) {s m x : Nat} (hz : 60 ≤ h.1) (hs : s < 2 ^ β.1) (hm : m < 3) (hx : x < 1000) (h1 : s &&& mkL β m x = 0 ∨ sdf s (s &&& mkL β m x) = 0) : J g (d + 3) 1 2 mX3_gainOf 0 (lv_args 0 [.ref 53, .int (nI s), .int (nI m), .int (nI x)]) [] h (RG (.ref h.1) (fun h' => Ext h h' ∧ h'.1 = h.1 + 1 ∧ ∃ f, h'.2 h.1 = some (aJ 2 f) ∧ f 0 = lN (0) ∧ f 1 = lN (1))) := by
  obtain ⟨hW, ⟨th, dq, lq, kk, m53⟩, ⟨mf, m54, em⟩, ⟨sf, m55, es⟩⟩ := id hM
  obtain ⟨hn, hc9, hm5, hs2⟩ := id hW
  have hp9 := pw_le hn
  have hs20 := lt20 hW hs
  have hA0 : 60 ≤ h.1 := hz
  refine J_aload_n (i := 0) (pc := 0) dX3_gainOf_0 rfl rfl ?_
  refine J_iload_n (i := 1) (pc := 1) dX3_gainOf_1 rfl rfl ?_
  refine J_iload_n (i := 2) (pc := 2) dX3_gainOf_2 rfl rfl ?_
  refine J_iload_n (i := 3) (pc := 3) dX3_gainOf_3 rfl rfl ?_
  refine J_cVi (st := []) (As := [.int (nI (s)), .int (nI (m)), .int (nI (x))]) (pc := 4) dX3_gainOf_4 okX3_lowOf q3_227 q3_229 qs2_5 (rfl : vwCl[3]? = some _) m53 rfl (Nat.le_of_ble_eq_true rfl) (Nat.le_of_ble_eq_true rfl) (m_lowOf hM (by omega) (by omega) (by omega)) ?_
  obtain ⟨low, elow⟩ : ∃ z : Nat, z = s &&& mkL β m x := ⟨_, rfl⟩
  rw [← elow]
  have hlow : low ≤ s := by rw [elow]; exact Nat.and_le_left
  have hcl := cnt_le low
  refine J_istore (i := 4) (lv' := [(4, .int (nI (low))), (0, .ref (53)), (1, .int (nI (s))), (2, .int (nI (m))), (3, .int (nI (x)))]) (pc := 7) dX3_gainOf_7 (by decide) rfl ?_
  refine J_iload_n (i := 1) (pc := 9) dX3_gainOf_9 rfl rfl ?_
  refine J_iload (i := 4) (pc := 10) dX3_gainOf_10 rfl ?_
  refine J_iconst (v := (-1)) (pc := 12) dX3_gainOf_12 rfl ?_
  refine J_ixor (pc := 13) dX3_gainOf_13 ?_
  refine J_iandX (pc := 14) dX3_gainOf_14 ?_
  obtain ⟨hi, ehi⟩ : ∃ z : Nat, z = sdf (s) (low) := ⟨_, rfl⟩
  rw [← ehi]
  have hhi : hi ≤ s := by rw [ehi]; exact sdf_le s low
  have hch := cnt_le hi
  refine J_istore (i := 5) (lv' := [(5, .int (nI (hi))), (4, .int (nI (low))), (0, .ref (53)), (1, .int (nI (s))), (2, .int (nI (m))), (3, .int (nI (x)))]) (pc := 15) dX3_gainOf_15 (by decide) rfl ?_
  refine J_iload (i := 4) (pc := 17) dX3_gainOf_17 rfl ?_
  refine J_if_eqN (tgt := 27) (pc := 19) dX3_gainOf_19 (by decide) (by omega) (fun c19 => ?_) (fun c19 => ?_)
  · skip
    refine J_iconst (v := nI (2)) (pc := 27) dX3_gainOf_27 rfl ?_
    obtain ⟨A_1, eA_1⟩ : ∃ z : Nat, z = h.1 := ⟨_, rfl⟩
    obtain ⟨h_2, eh_2⟩ : ∃ z : MH, z = (A_1 + 1, hset h.2 A_1 (aJ (2) (fun _ => 0))) := ⟨_, rfl⟩
    refine J_newJA (A := A_1) (h' := h_2) (n := 2) (ca' := 0) (sa' := 0) (pc := 28) dX3_gainOf_28 rfl (by decide) (by omega) (by omega) eA_1 eh_2 ?_
    have zh_2 : h_2.1 = A_1 + 1 := by rw [eh_2]
    have H_3 : h_2.2 (53) = some (oB 3 [.int (th), .int (nI (β.1)), .ref (54), .ref (55), .int (nI (β.2.1)), .int (dq), .int (lq), .int (kk), .ref (56), .ref (57), .ref (58)]) := (ha_n eh_2 (by omega)).trans m53
    have H_4 : h_2.2 (54) = some (aI (60) (mf)) := (ha_n eh_2 (by omega)).trans m54
    have H_5 : h_2.2 (55) = some (aI (20) (sf)) := (ha_n eh_2 (by omega)).trans m55
    have H_6 : Ext h h_2 := Ext_new Ext_rfl eA_1 eh_2
    have H_7 : MS h_2 β := MS_oth (fun i i1 i2 => ha_n eh_2 (by omega)) hM
    have H_8 : h_2.2 (A_1) = some (aJ (2) (fun _ => 0)) := ha_s eh_2
    refine J_dup (pc := 30) dX3_gainOf_30 rfl ?_
    refine J_iconst (v := nI (0)) (pc := 31) dX3_gainOf_31 rfl ?_
    refine J_lconst (v := lN 0) (pc := 32) dX3_gainOf_32 rfl ?_
    refine J_last (j := 0) (pc := 33) dX3_gainOf_33 H_8 rfl (by omega) (by omega) ?_
    obtain ⟨h_9, eh_9⟩ : ∃ z : MH, z = (h_2.1, hset h_2.2 (A_1) (aJ (2) (vp_updL ((fun _ => 0)) (0) (lN (0))))) := ⟨_, rfl⟩
    refine J_heq (h2 := h_9) eh_9 ?_
    have zh_9 : h_9.1 = h_2.1 := by rw [eh_9]
    have H_10 : h_9.2 (53) = some (oB 3 [.int (th), .int (nI (β.1)), .ref (54), .ref (55), .int (nI (β.2.1)), .int (dq), .int (lq), .int (kk), .ref (56), .ref (57), .ref (58)]) := (hs_n eh_9 (by omega)).trans H_3
    have H_11 : h_9.2 (54) = some (aI (60) (mf)) := (hs_n eh_9 (by omega)).trans H_4
    have H_12 : h_9.2 (55) = some (aI (20) (sf)) := (hs_n eh_9 (by omega)).trans H_5
    have H_13 : Ext h h_9 := by rw [eh_9]; exact Ext_st H_6 (by omega) rfl
    have H_14 : MS h_9 β := by rw [eh_9]; exact MS_oth (fun i i1 i2 => hset_n (by omega)) H_7
    have H_15 : h_9.2 (A_1) = some (aJ (2) (vp_updL ((fun _ => 0)) (0) (lN (0)))) := hs_s eh_9
    refine J_dup (pc := 34) dX3_gainOf_34 rfl ?_
    refine J_iconst (v := nI (1)) (pc := 35) dX3_gainOf_35 rfl ?_
    refine J_lconst (v := lN 1) (pc := 36) dX3_gainOf_36 rfl ?_
    refine J_last (j := 1) (pc := 37) dX3_gainOf_37 H_15 rfl (by omega) (by omega) ?_
    obtain ⟨h_16, eh_16⟩ : ∃ z : MH, z = (h_9.1, hset h_9.2 (A_1) (aJ (2) (vp_updL (vp_updL ((fun _ => 0)) (0) (lN (0))) (1) (lN (1))))) := ⟨_, rfl⟩
    refine J_heq (h2 := h_16) eh_16 ?_
    have zh_16 : h_16.1 = h_9.1 := by rw [eh_16]
    have H_17 : h_16.2 (53) = some (oB 3 [.int (th), .int (nI (β.1)), .ref (54), .ref (55), .int (nI (β.2.1)), .int (dq), .int (lq), .int (kk), .ref (56), .ref (57), .ref (58)]) := (hs_n eh_16 (by omega)).trans H_10
    have H_18 : h_16.2 (54) = some (aI (60) (mf)) := (hs_n eh_16 (by omega)).trans H_11
    have H_19 : h_16.2 (55) = some (aI (20) (sf)) := (hs_n eh_16 (by omega)).trans H_12
    have H_20 : Ext h h_16 := by rw [eh_16]; exact Ext_st H_13 (by omega) rfl
    have H_21 : MS h_16 β := by rw [eh_16]; exact MS_oth (fun i i1 i2 => hset_n (by omega)) H_14
    have H_22 : h_16.2 (A_1) = some (aJ (2) (vp_updL (vp_updL ((fun _ => 0)) (0) (lN (0))) (1) (lN (1)))) := hs_s eh_16
    refine J_aret (pc := 38) dX3_gainOf_38 rfl ?_
    exact ⟨by rw [eA_1], H_20, by omega, _, by rw [← eA_1]; exact H_22, by (rw [pk_uLn (by decide), pk_uLs]), by (rw [pk_uLs])⟩
  · skip
    refine J_iload (i := 5) (pc := 22) dX3_gainOf_22 rfl ?_
    refine J_if_neN (tgt := 39) (pc := 24) dX3_gainOf_24 (by decide) (by omega) (fun c24 => absurd c24 (fun q => q (by rw [ehi, elow]; exact h1.resolve_left (fun q => c19 (by rw [elow]; exact q))))) (fun c24 => ?_)
    refine J_iconst (v := nI (2)) (pc := 27) dX3_gainOf_27 rfl ?_
    obtain ⟨A_23, eA_23⟩ : ∃ z : Nat, z = h.1 := ⟨_, rfl⟩
    obtain ⟨h_24, eh_24⟩ : ∃ z : MH, z = (A_23 + 1, hset h.2 A_23 (aJ (2) (fun _ => 0))) := ⟨_, rfl⟩
    refine J_newJA (A := A_23) (h' := h_24) (n := 2) (ca' := 0) (sa' := 0) (pc := 28) dX3_gainOf_28 rfl (by decide) (by omega) (by omega) eA_23 eh_24 ?_
    have zh_24 : h_24.1 = A_23 + 1 := by rw [eh_24]
    have H_25 : h_24.2 (53) = some (oB 3 [.int (th), .int (nI (β.1)), .ref (54), .ref (55), .int (nI (β.2.1)), .int (dq), .int (lq), .int (kk), .ref (56), .ref (57), .ref (58)]) := (ha_n eh_24 (by omega)).trans m53
    have H_26 : h_24.2 (54) = some (aI (60) (mf)) := (ha_n eh_24 (by omega)).trans m54
    have H_27 : h_24.2 (55) = some (aI (20) (sf)) := (ha_n eh_24 (by omega)).trans m55
    have H_28 : Ext h h_24 := Ext_new Ext_rfl eA_23 eh_24
    have H_29 : MS h_24 β := MS_oth (fun i i1 i2 => ha_n eh_24 (by omega)) hM
    have H_30 : h_24.2 (A_23) = some (aJ (2) (fun _ => 0)) := ha_s eh_24
    refine J_dup (pc := 30) dX3_gainOf_30 rfl ?_
    refine J_iconst (v := nI (0)) (pc := 31) dX3_gainOf_31 rfl ?_
    refine J_lconst (v := lN 0) (pc := 32) dX3_gainOf_32 rfl ?_
    refine J_last (j := 0) (pc := 33) dX3_gainOf_33 H_30 rfl (by omega) (by omega) ?_
    obtain ⟨h_31, eh_31⟩ : ∃ z : MH, z = (h_24.1, hset h_24.2 (A_23) (aJ (2) (vp_updL ((fun _ => 0)) (0) (lN (0))))) := ⟨_, rfl⟩
    refine J_heq (h2 := h_31) eh_31 ?_
    have zh_31 : h_31.1 = h_24.1 := by rw [eh_31]
    have H_32 : h_31.2 (53) = some (oB 3 [.int (th), .int (nI (β.1)), .ref (54), .ref (55), .int (nI (β.2.1)), .int (dq), .int (lq), .int (kk), .ref (56), .ref (57), .ref (58)]) := (hs_n eh_31 (by omega)).trans H_25
    have H_33 : h_31.2 (54) = some (aI (60) (mf)) := (hs_n eh_31 (by omega)).trans H_26
    have H_34 : h_31.2 (55) = some (aI (20) (sf)) := (hs_n eh_31 (by omega)).trans H_27
    have H_35 : Ext h h_31 := by rw [eh_31]; exact Ext_st H_28 (by omega) rfl
    have H_36 : MS h_31 β := by rw [eh_31]; exact MS_oth (fun i i1 i2 => hset_n (by omega)) H_29
    have H_37 : h_31.2 (A_23) = some (aJ (2) (vp_updL ((fun _ => 0)) (0) (lN (0)))) := hs_s eh_31
    refine J_dup (pc := 34) dX3_gainOf_34 rfl ?_
    refine J_iconst (v := nI (1)) (pc := 35) dX3_gainOf_35 rfl ?_
    refine J_lconst (v := lN 1) (pc := 36) dX3_gainOf_36 rfl ?_
    refine J_last (j := 1) (pc := 37) dX3_gainOf_37 H_37 rfl (by omega) (by omega) ?_
    obtain ⟨h_38, eh_38⟩ : ∃ z : MH, z = (h_31.1, hset h_31.2 (A_23) (aJ (2) (vp_updL (vp_updL ((fun _ => 0)) (0) (lN (0))) (1) (lN (1))))) := ⟨_, rfl⟩
    refine J_heq (h2 := h_38) eh_38 ?_
    have zh_38 : h_38.1 = h_31.1 := by rw [eh_38]
    have H_39 : h_38.2 (53) = some (oB 3 [.int (th), .int (nI (β.1)), .ref (54), .ref (55), .int (nI (β.2.1)), .int (dq), .int (lq), .int (kk), .ref (56), .ref (57), .ref (58)]) := (hs_n eh_38 (by omega)).trans H_32
    have H_40 : h_38.2 (54) = some (aI (60) (mf)) := (hs_n eh_38 (by omega)).trans H_33
    have H_41 : h_38.2 (55) = some (aI (20) (sf)) := (hs_n eh_38 (by omega)).trans H_34
    have H_42 : Ext h h_38 := by rw [eh_38]; exact Ext_st H_35 (by omega) rfl
    have H_43 : MS h_38 β := by rw [eh_38]; exact MS_oth (fun i i1 i2 => hset_n (by omega)) H_36
    have H_44 : h_38.2 (A_23) = some (aJ (2) (vp_updL (vp_updL ((fun _ => 0)) (0) (lN (0))) (1) (lN (1)))) := hs_s eh_38
    refine J_aret (pc := 38) dX3_gainOf_38 rfl ?_
    exact ⟨by rw [eA_23], H_42, by omega, _, by rw [← eA_23]; exact H_44, by (rw [pk_uLn (by decide), pk_uLs]), by (rw [pk_uLs])⟩

set_option maxHeartbeats 2000000 in
set_option maxRecDepth 20000 in
theorem mb_in {g : GT} {d : Nat} {β : BT} {s le m R : Nat} {Q : RT → MH → Prop} (hs : s < 2 ^ β.1) (he : 1 ≤ le) (he2 : le < 1000) (hm : m < 3) : ∀ (k x r : Nat) (t : Option Nat × Nat × Nat) (h : MH) (A : Nat) (f : Nat → Int64), x + k = 50 → invS t → MS h β → 60 ≤ h.1 → (h.2 A = some (aJ 2 f) ∧ f 0 = lN (t).2.1 ∧ f 1 = lN (t).2.2 ∧ A < h.1) → cnt s ≤ cnt (prevS β s m x) + r + 1 →
    (∀ h' f' A', Ext h h' → (h'.2 A' = some (aJ 2 f') ∧ f' 0 = lN (scF β s le m k x t).2.1 ∧ f' 1 = lN (scF β s le m k x t).2.2 ∧ A' < h'.1) → J g (d + 4) R (2 * R) mX3_bestOf 143 [(5, .int (nI (m))), (4, .ref (A')), (3, .int (enc ((scF β s le m k x t).1))), (0, .ref (53)), (1, .int (nI (s))), (2, .int (nI (le)))] [] h' Q) → J g (d + 4) (r + R) (2 * (r + R)) mX3_bestOf 27 [(6, .int (nI (x))), (5, .int (nI (m))), (4, .ref (A)), (3, .int (enc (t.1))), (0, .ref (53)), (1, .int (nI (s))), (2, .int (nI (le)))] [] h Q := by
  intro k
  induction k with
  | zero =>
    intro x r t h A f hk hi hM hz hS hr hx
    obtain rfl : x = 50 := by omega
    refine J_iload (i := 6) (pc := 27) dX3_bestOf_27 rfl ?_
    refine J_bipush (v := nI (50)) (pc := 29) dX3_bestOf_29 rfl ?_
    refine J_icmp_geN (tgt := 143) (pc := 31) dX3_bestOf_31 (by decide) (by omega) (by omega) (fun c31 => ?_) (fun c31 => by exfalso; first | omega | simp_all)
    refine J_sub (lv' := [(5, .int (nI (m))), (4, .ref (A)), (3, .int (enc (t.1))), (0, .ref (53)), (1, .int (nI (s))), (2, .int (nI (le)))]) [1, 2, 3, 4, 5, 6] rfl ?_
    exact J_bud (by omega) (by omega) (hx h f A Ext_rfl hS)
  | succ k ih =>
    intro x r t h A f hk hi hM hz hS hr hx
    obtain ⟨hA, hf0, hf1, hAl⟩ := id hS
    obtain ⟨hW, ⟨th, dq, lq, kk, m53⟩, ⟨mf, m54, em⟩, ⟨sf, m55, es⟩⟩ := id hM
    obtain ⟨hn, hc9, hm5, hs2⟩ := id hW
    have hp9 := pw_le hn
    have hs20 := lt20 hW hs
    have hi2 := hi.1
    have hi3 := hi.2
    have hmul1 : t.2.1 * gB s (s &&& mkL β m x) ≤ 960000 * 8000 := Nat.mul_le_mul hi.1 (gB_le _ _)
    have hmul2 : gA β s (s &&& mkL β m x) * t.2.2 ≤ 960000 * 8000 := Nat.mul_le_mul (gA_le _ _ _) hi.2
    refine J_iload (i := 6) (pc := 27) dX3_bestOf_27 rfl ?_
    refine J_bipush (v := nI (50)) (pc := 29) dX3_bestOf_29 rfl ?_
    refine J_icmp_geN (tgt := 143) (pc := 31) dX3_bestOf_31 (by decide) (by omega) (by omega) (fun c31 => by exfalso; first | omega | simp_all) (fun c31 => ?_)
    refine J_aload_n (i := 0) (pc := 34) dX3_bestOf_34 rfl rfl ?_
    refine J_iload_n (i := 1) (pc := 35) dX3_bestOf_35 rfl rfl ?_
    refine J_iload (i := 5) (pc := 36) dX3_bestOf_36 rfl ?_
    refine J_iload (i := 6) (pc := 38) dX3_bestOf_38 rfl ?_
    refine J_cVi (st := []) (As := [.int (nI (s)), .int (nI (m)), .int (nI (x))]) (pc := 40) dX3_bestOf_40 okX3_lowOf q3_227 q3_229 qs2_5 (rfl : vwCl[3]? = some _) m53 rfl (Nat.le_of_ble_eq_true rfl) (Nat.le_of_ble_eq_true rfl) (m_lowOf hM (by omega) (by omega) (by omega)) ?_
    obtain ⟨low, elow⟩ : ∃ z : Nat, z = s &&& mkL β m x := ⟨_, rfl⟩
    rw [← elow]
    have hlow : low ≤ s := by rw [elow]; exact Nat.and_le_left
    have hpv := prevS_lt (β := β) (m := m) (x := x) hs20
    have hgA := gA_le β s low
    have hgB := gB_le s low
    have hpc := prev_cnt (β := β) (s := s) (m := m) (x := x)
    have hcs := cnt_split2 s (mkL β m x)
    rw [← elow] at hpc hcs hmul1 hmul2
    have hsd := sdf_le s low
    have hcl := cnt_le low
    have hch := cnt_le (sdf s low)
    refine J_istore (i := 7) (lv' := [(7, .int (nI (low))), (6, .int (nI (x))), (5, .int (nI (m))), (4, .ref (A)), (3, .int (enc (t.1))), (0, .ref (53)), (1, .int (nI (s))), (2, .int (nI (le)))]) (pc := 43) dX3_bestOf_43 (by decide) rfl ?_
    refine J_iload (i := 7) (pc := 45) dX3_bestOf_45 rfl ?_
    refine J_aload_n (i := 0) (pc := 47) dX3_bestOf_47 rfl rfl ?_
    refine J_iload_n (i := 1) (pc := 48) dX3_bestOf_48 rfl rfl ?_
    refine J_iload (i := 5) (pc := 49) dX3_bestOf_49 rfl ?_
    refine J_iload (i := 6) (pc := 51) dX3_bestOf_51 rfl ?_
    refine J_iconst (v := nI (1)) (pc := 53) dX3_bestOf_53 rfl ?_
    refine J_isub (pc := 54) dX3_bestOf_54 ?_
    refine J_cVi (st := [.int (nI (low))]) (As := [.int (nI (s)), .int (nI (m)), .int (nI (x) - nI (1))]) (pc := 55) dX3_bestOf_55 okX3_lowOf q3_227 q3_229 qs2_5 (rfl : vwCl[3]? = some _) m53 rfl (Nat.le_of_ble_eq_true rfl) (Nat.le_of_ble_eq_true rfl) (m_lowP hM hs20 hm (by omega)) ?_
    refine J_icmp_eqN (tgt := 137) (pc := 58) dX3_bestOf_58 (by decide) (by omega) (by omega) (fun c58 => ?_) (fun c58 => ?_)
    · skip
      refine J_iinc (i := 6) (v := nI (x + 1)) (lv' := [(6, .int (nI (x + 1))), (7, .int (nI (low))), (5, .int (nI (m))), (4, .ref (A)), (3, .int (enc (t.1))), (0, .ref (53)), (1, .int (nI (s))), (2, .int (nI (le)))]) (pc := 137) dX3_bestOf_137 rfl (nI_add (x) 1) (by decide) rfl ?_
      refine J_goto (tgt := 27) (pc := 140) dX3_bestOf_140 (by decide) ?_
      refine J_sub (lv' := [(6, .int (nI (x + 1))), (5, .int (nI (m))), (4, .ref (A)), (3, .int (enc (t.1))), (0, .ref (53)), (1, .int (nI (s))), (2, .int (nI (le)))]) [0, 2, 3, 4, 5, 6, 7] rfl ?_
      have e9 : stepS β s le m x t = t := by 
        rw [stepS, ← elow]
        refine if_neg ?_
        intro q
        first
        | exact absurd c58 q.1
        | (have q2 := q.2.1; rw [Bool.and_eq_true, decide_eq_true_eq, decide_eq_true_eq] at q2; omega)
        | exact absurd q.2.2 (by omega)
      have hP9 : prevS β s m (x + 1) = low := elow.symm
      have r9 := ih (x + 1) (r) (stepS β s le m x t) h A f (by omega) (invS_step hi) hM (by omega) (by rw [e9]; exact ⟨hA, hf0, hf1, by omega⟩) (by rw [hP9]; omega) (fun h' f' A' x9 st9 => hx h' f' A' (Ext_tr Ext_rfl x9) st9)
      rw [e9] at r9
      skip
      exact J_bud (by omega) (by omega) r9
    · skip
      have hpl := prev_lt (β := β) (m := m) (x := x) hs20 (by rw [← elow]; exact c58)
      rw [← elow] at hpl
      refine J_aload_n (i := 0) (pc := 61) dX3_bestOf_61 rfl rfl ?_
      refine J_iload (i := 7) (pc := 62) dX3_bestOf_62 rfl ?_
      refine J_cVi (st := []) (As := [.int (nI (low))]) (pc := 64) dX3_bestOf_64 okX3_many q3_219 q3_221 qs2_3 (rfl : vwCl[3]? = some _) m53 rfl (Nat.le_of_ble_eq_true rfl) (Nat.le_of_ble_eq_true rfl) (m_many hM (by omega)) ?_
      refine J_iload_n (i := 2) (pc := 67) dX3_bestOf_67 rfl rfl ?_
      refine J_icmp_ltN (tgt := 137) (pc := 68) dX3_bestOf_68 (by decide) (by omega) (by omega) (fun c68 => ?_) (fun c68 => ?_)
      · skip
        refine J_iinc (i := 6) (v := nI (x + 1)) (lv' := [(6, .int (nI (x + 1))), (7, .int (nI (low))), (5, .int (nI (m))), (4, .ref (A)), (3, .int (enc (t.1))), (0, .ref (53)), (1, .int (nI (s))), (2, .int (nI (le)))]) (pc := 137) dX3_bestOf_137 rfl (nI_add (x) 1) (by decide) rfl ?_
        refine J_goto (tgt := 27) (pc := 140) dX3_bestOf_140 (by decide) ?_
        refine J_sub (lv' := [(6, .int (nI (x + 1))), (5, .int (nI (m))), (4, .ref (A)), (3, .int (enc (t.1))), (0, .ref (53)), (1, .int (nI (s))), (2, .int (nI (le)))]) [0, 2, 3, 4, 5, 6, 7] rfl ?_
        have e9 : stepS β s le m x t = t := by 
          rw [stepS, ← elow]
          refine if_neg ?_
          intro q
          first
          | exact absurd c58 q.1
          | (have q2 := q.2.1; rw [Bool.and_eq_true, decide_eq_true_eq, decide_eq_true_eq] at q2; omega)
          | exact absurd q.2.2 (by omega)
        have hP9 : prevS β s m (x + 1) = low := elow.symm
        have r9 := ih (x + 1) (r) (stepS β s le m x t) h A f (by omega) (invS_step hi) hM (by omega) (by rw [e9]; exact ⟨hA, hf0, hf1, by omega⟩) (by rw [hP9]; omega) (fun h' f' A' x9 st9 => hx h' f' A' (Ext_tr Ext_rfl x9) st9)
        rw [e9] at r9
        skip
        exact J_bud (by omega) (by omega) r9
      · skip
        refine J_aload_n (i := 0) (pc := 71) dX3_bestOf_71 rfl rfl ?_
        refine J_iload_n (i := 1) (pc := 72) dX3_bestOf_72 rfl rfl ?_
        refine J_iload (i := 7) (pc := 73) dX3_bestOf_73 rfl ?_
        refine J_iconst (v := (-1)) (pc := 75) dX3_bestOf_75 rfl ?_
        refine J_ixor (pc := 76) dX3_bestOf_76 ?_
        refine J_iandX (pc := 77) dX3_bestOf_77 ?_
        refine J_cVi (st := []) (As := [.int (nI (sdf (s) (low)))]) (pc := 78) dX3_bestOf_78 okX3_many q3_219 q3_221 qs2_3 (rfl : vwCl[3]? = some _) m53 rfl (Nat.le_of_ble_eq_true rfl) (Nat.le_of_ble_eq_true rfl) (m_many hM (by omega)) ?_
        refine J_iload_n (i := 2) (pc := 81) dX3_bestOf_81 rfl rfl ?_
        refine J_icmp_geN (tgt := 88) (pc := 82) dX3_bestOf_82 (by decide) (by omega) (by omega) (fun c82 => ?_) (fun c82 => ?_)
        · skip
          have hne1 : low ≠ 0 := fun q => by rw [q] at hpl; exact absurd hpl (by rw [show cnt 0 = 0 from rfl]; omega)
          have hne2 : sdf s low ≠ 0 := fun q => by rw [q] at c82; rw [show cnt 0 = 0 from rfl] at c82; omega
          refine J_aload_n (i := 0) (pc := 88) dX3_bestOf_88 rfl rfl ?_
          refine J_iload_n (i := 1) (pc := 89) dX3_bestOf_89 rfl rfl ?_
          refine J_iload (i := 5) (pc := 90) dX3_bestOf_90 rfl ?_
          refine J_iload (i := 6) (pc := 92) dX3_bestOf_92 rfl ?_
          refine J_cVB (st := []) (As := [.int (nI (s)), .int (nI (m)), .int (nI (x))]) (v := some (.ref (h.1))) (ca1 := 1) (sa1 := 2) (ca2 := r - 1 + R) (sa2 := 2 * (r - 1 + R)) (pc := 94) dX3_bestOf_94 okX3_gainOf q3_235 q3_237 qs2_7 (rfl : vwCl[3]? = some _) m53 rfl (Nat.le_of_ble_eq_true rfl) (Nat.le_of_ble_eq_true rfl) (m_gainA hM (by omega) hs hm (by omega) (by rw [← elow]; exact hne1) (by rw [← elow]; exact hne2)) (by omega) (by omega) (fun h_1 q_2 => ?_)
          obtain ⟨B, eB⟩ : ∃ z : Nat, z = h.1 := ⟨_, rfl⟩
          rw [← eB]
          obtain ⟨xB, zB, fB, kB, fB0, fB1⟩ := q_2
          rw [← eB] at kB
          have H_3 : h_1.2 (53) = some (oB 3 [.int (th), .int (nI (β.1)), .ref (54), .ref (55), .int (nI (β.2.1)), .int (dq), .int (lq), .int (kk), .ref (56), .ref (57), .ref (58)]) := (xB.2 _ (by omega)).trans m53
          have H_4 : h_1.2 (54) = some (aI (60) (mf)) := (xB.2 _ (by omega)).trans m54
          have H_5 : h_1.2 (55) = some (aI (20) (sf)) := (xB.2 _ (by omega)).trans m55
          have H_6 : Ext h h_1 := Ext_tr Ext_rfl xB
          have H_7 : MS h_1 β := MS_ext xB (by omega) hM
          have H_8 : h_1.2 (A) = some (aJ (2) (f)) := (xB.2 _ (by omega)).trans hA
          rw [← elow] at fB0 fB1
          refine J_astore (i := 8) (lv' := [(8, .ref (B)), (7, .int (nI (low))), (6, .int (nI (x))), (5, .int (nI (m))), (4, .ref (A)), (3, .int (enc (t.1))), (0, .ref (53)), (1, .int (nI (s))), (2, .int (nI (le)))]) (pc := 97) dX3_bestOf_97 (by decide) rfl ?_
          refine J_aload (i := 8) (pc := 99) dX3_bestOf_99 rfl ?_
          refine J_iconst (v := nI (0)) (pc := 101) dX3_bestOf_101 rfl ?_
          refine J_lald (j := 0) (pc := 102) dX3_bestOf_102 kB rfl (by omega) (by omega) ?_
          rw [show fB 0 = lN (gA β s low) from fB0]
          refine J_aload (i := 4) (pc := 103) dX3_bestOf_103 rfl ?_
          refine J_iconst (v := nI (1)) (pc := 105) dX3_bestOf_105 rfl ?_
          refine J_lald (j := 1) (pc := 106) dX3_bestOf_106 H_8 rfl (by omega) (by omega) ?_
          rw [show f 1 = lN (t.2.2) from hf1]
          refine J_lmulN (pc := 107) dX3_bestOf_107 ?_
          refine J_aload (i := 4) (pc := 108) dX3_bestOf_108 rfl ?_
          refine J_iconst (v := nI (0)) (pc := 110) dX3_bestOf_110 rfl ?_
          refine J_lald (j := 0) (pc := 111) dX3_bestOf_111 H_8 rfl (by omega) (by omega) ?_
          rw [show f 0 = lN (t.2.1) from hf0]
          refine J_aload (i := 8) (pc := 112) dX3_bestOf_112 rfl ?_
          refine J_iconst (v := nI (1)) (pc := 114) dX3_bestOf_114 rfl ?_
          refine J_lald (j := 1) (pc := 115) dX3_bestOf_115 kB rfl (by omega) (by omega) ?_
          rw [show fB 1 = lN (gB s low) from fB1]
          refine J_lmulN (pc := 116) dX3_bestOf_116 ?_
          refine J_lcmp (pc := 117) dX3_bestOf_117 ?_
          refine J_if_gt (tgt := 124) (pc := 118) dX3_bestOf_118 (by decide) (fun c118 => ?_) (fun c118 => ?_)
          · skip
            rw [lgc_gt (by omega) (by omega)] at c118
            refine J_bipush (v := nI (51)) (pc := 124) dX3_bestOf_124 rfl ?_
            refine J_iload (i := 5) (pc := 126) dX3_bestOf_126 rfl ?_
            refine J_imulN (pc := 128) dX3_bestOf_128 ?_
            refine J_iload (i := 6) (pc := 129) dX3_bestOf_129 rfl ?_
            refine J_iaddN (pc := 131) dX3_bestOf_131 ?_
            refine J_istore_n (i := 3) (lv' := [(3, .int (nI (((51) * (m)) + x))), (8, .ref (B)), (7, .int (nI (low))), (6, .int (nI (x))), (5, .int (nI (m))), (4, .ref (A)), (0, .ref (53)), (1, .int (nI (s))), (2, .int (nI (le)))]) (pc := 132) dX3_bestOf_132 rfl (by decide) rfl ?_
            refine J_aload (i := 8) (pc := 133) dX3_bestOf_133 rfl ?_
            refine J_astore (i := 4) (lv' := [(4, .ref (B)), (3, .int (nI (((51) * (m)) + x))), (8, .ref (B)), (7, .int (nI (low))), (6, .int (nI (x))), (5, .int (nI (m))), (0, .ref (53)), (1, .int (nI (s))), (2, .int (nI (le)))]) (pc := 135) dX3_bestOf_135 (by decide) rfl ?_
            refine J_iinc (i := 6) (v := nI (x + 1)) (lv' := [(6, .int (nI (x + 1))), (4, .ref (B)), (3, .int (nI (((51) * (m)) + x))), (8, .ref (B)), (7, .int (nI (low))), (5, .int (nI (m))), (0, .ref (53)), (1, .int (nI (s))), (2, .int (nI (le)))]) (pc := 137) dX3_bestOf_137 rfl (nI_add (x) 1) (by decide) rfl ?_
            refine J_goto (tgt := 27) (pc := 140) dX3_bestOf_140 (by decide) ?_
            refine J_sub (lv' := [(6, .int (nI (x + 1))), (5, .int (nI (m))), (4, .ref (B)), (3, .int (nI (((51) * (m)) + x))), (0, .ref (53)), (1, .int (nI (s))), (2, .int (nI (le)))]) [0, 5, 1, 2, 6, 7, 8] rfl ?_
            have e9 : stepS β s le m x t = (some (m * 51 + x), gA β s low, gB s low) := by rw [stepS, ← elow]; exact if_pos ⟨c58, by rw [Bool.and_eq_true, decide_eq_true_eq, decide_eq_true_eq]; exact ⟨c68, c82⟩, c118⟩
            have hP9 : prevS β s m (x + 1) = low := elow.symm
            have r9 := ih (x + 1) (r - 1) (stepS β s le m x t) h_1 B fB (by omega) (invS_step hi) H_7 (by omega) (by rw [e9]; exact ⟨kB, fB0, fB1, by omega⟩) (by rw [hP9]; omega) (fun h' f' A' x9 st9 => hx h' f' A' (Ext_tr H_6 x9) st9)
            rw [e9] at r9
            rw [Nat.mul_comm 51 m]
            exact J_bud (by omega) (by omega) r9
          · skip
            rw [lgc_gt (by omega) (by omega)] at c118
            refine J_goto (tgt := 137) (pc := 121) dX3_bestOf_121 (by decide) ?_
            refine J_iinc (i := 6) (v := nI (x + 1)) (lv' := [(6, .int (nI (x + 1))), (8, .ref (B)), (7, .int (nI (low))), (5, .int (nI (m))), (4, .ref (A)), (3, .int (enc (t.1))), (0, .ref (53)), (1, .int (nI (s))), (2, .int (nI (le)))]) (pc := 137) dX3_bestOf_137 rfl (nI_add (x) 1) (by decide) rfl ?_
            refine J_goto (tgt := 27) (pc := 140) dX3_bestOf_140 (by decide) ?_
            refine J_sub (lv' := [(6, .int (nI (x + 1))), (5, .int (nI (m))), (4, .ref (A)), (3, .int (enc (t.1))), (0, .ref (53)), (1, .int (nI (s))), (2, .int (nI (le)))]) [0, 3, 4, 5, 6, 7, 8] rfl ?_
            have e9 : stepS β s le m x t = t := by 
              rw [stepS, ← elow]
              refine if_neg ?_
              intro q
              first
              | exact absurd c58 q.1
              | (have q2 := q.2.1; rw [Bool.and_eq_true, decide_eq_true_eq, decide_eq_true_eq] at q2; omega)
              | exact absurd q.2.2 (by omega)
            have hP9 : prevS β s m (x + 1) = low := elow.symm
            have r9 := ih (x + 1) (r - 1) (stepS β s le m x t) h_1 A f (by omega) (invS_step hi) H_7 (by omega) (by rw [e9]; exact ⟨H_8, hf0, hf1, by omega⟩) (by rw [hP9]; omega) (fun h' f' A' x9 st9 => hx h' f' A' (Ext_tr H_6 x9) st9)
            rw [e9] at r9
            skip
            exact J_bud (by omega) (by omega) r9
        · skip
          refine J_goto (tgt := 137) (pc := 85) dX3_bestOf_85 (by decide) ?_
          refine J_iinc (i := 6) (v := nI (x + 1)) (lv' := [(6, .int (nI (x + 1))), (7, .int (nI (low))), (5, .int (nI (m))), (4, .ref (A)), (3, .int (enc (t.1))), (0, .ref (53)), (1, .int (nI (s))), (2, .int (nI (le)))]) (pc := 137) dX3_bestOf_137 rfl (nI_add (x) 1) (by decide) rfl ?_
          refine J_goto (tgt := 27) (pc := 140) dX3_bestOf_140 (by decide) ?_
          refine J_sub (lv' := [(6, .int (nI (x + 1))), (5, .int (nI (m))), (4, .ref (A)), (3, .int (enc (t.1))), (0, .ref (53)), (1, .int (nI (s))), (2, .int (nI (le)))]) [0, 2, 3, 4, 5, 6, 7] rfl ?_
          have e9 : stepS β s le m x t = t := by 
            rw [stepS, ← elow]
            refine if_neg ?_
            intro q
            first
            | exact absurd c58 q.1
            | (have q2 := q.2.1; rw [Bool.and_eq_true, decide_eq_true_eq, decide_eq_true_eq] at q2; omega)
            | exact absurd q.2.2 (by omega)
          have hP9 : prevS β s m (x + 1) = low := elow.symm
          have r9 := ih (x + 1) (r) (stepS β s le m x t) h A f (by omega) (invS_step hi) hM (by omega) (by rw [e9]; exact ⟨hA, hf0, hf1, by omega⟩) (by rw [hP9]; omega) (fun h' f' A' x9 st9 => hx h' f' A' (Ext_tr Ext_rfl x9) st9)
          rw [e9] at r9
          skip
          exact J_bud (by omega) (by omega) r9

