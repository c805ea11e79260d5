theorem gA_le (β : BT) (s low : Nat) : gA β s low ≤ 960000 := by
  have h1 := sqs_le β low
  have h2 := sqs_le β (sdf s low)
  have h3 := cnt_le s
  have h4 := cnt_le low
  have h5 := cnt_le (sdf s low)
  have k1 : sqs β low * cnt (sdf s low) * cnt s ≤ 1200 * 20 * 20 := Nat.mul_le_mul (Nat.mul_le_mul h1 h5) h3
  have k2 : sqs β (sdf s low) * cnt low * cnt s ≤ 1200 * 20 * 20 := Nat.mul_le_mul (Nat.mul_le_mul h2 h4) h3
  unfold gA
  omega
theorem gB_le (s low : Nat) : gB s low ≤ 8000 := Nat.mul_le_mul (Nat.mul_le_mul (cnt_le s) (cnt_le low)) (cnt_le (sdf s low))

set_option maxHeartbeats 2000000 in
set_option maxRecDepth 20000 in
theorem c_gainAbove {g : GT} {d : Nat} {h : MH} {β : BT} (hB : BH h β) {s low z : Nat} (hs : s < 2 ^ 20) (hl : low = s &&& z) : J g (d + 3) 0 0 mX0_gainAbove 0 (lv_args 0 [.ref (2), .int (nI (s)), .int (nI (low))]) [] h (RI (nI (gA β s low)) h) := by
  obtain ⟨hW, mf, sf, tf, lf, b2, b3, bm, b7, b8, b9, em, es, et, el⟩ := id hB
  obtain ⟨hn, hc, hm5, hs2⟩ := id hW
  have hp := pw_le hn
  have h9 := sdf_le s low
  have h8 : low ≤ s := by rw [hl]; exact Nat.and_le_left
  have h7 := gA_ge β s z
  rw [← hl] at h7
  refine J_iload_n (i := 1) (pc := 0) dX0_gainAbove_0 rfl rfl ?_
  refine J_iload_n (i := 2) (pc := 1) dX0_gainAbove_1 rfl rfl ?_
  refine J_iconst (v := (-1)) (pc := 2) dX0_gainAbove_2 rfl ?_
  refine J_ixor (pc := 3) dX0_gainAbove_3 ?_
  refine J_iandX (pc := 4) dX0_gainAbove_4 ?_
  refine J_istore_n (i := 3) (lv' := [(3, .int (nI (sdf (s) (low)))), (0, .ref (2)), (1, .int (nI (s))), (2, .int (nI (low)))]) (pc := 5) dX0_gainAbove_5 rfl (by decide) rfl ?_
  refine J_iload_n (i := 1) (pc := 6) dX0_gainAbove_6 rfl rfl ?_
  refine J_cSi (st := []) (As := [.int (nI (s))]) (pc := 7) dX0_gainAbove_7 okJ6_bitCount_0f7a4 q1_185 q1_186 rfl (Nat.le_of_ble_eq_true rfl) (Nat.le_of_ble_eq_true rfl) (c_bitCount (by omega)) ?_
  refine J_istore (i := 4) (lv' := [(4, .int (nI (cnt (s)))), (3, .int (nI (sdf (s) (low)))), (0, .ref (2)), (1, .int (nI (s))), (2, .int (nI (low)))]) (pc := 10) dX0_gainAbove_10 (by decide) rfl ?_
  refine J_iload_n (i := 2) (pc := 12) dX0_gainAbove_12 rfl rfl ?_
  refine J_cSi (st := []) (As := [.int (nI (low))]) (pc := 13) dX0_gainAbove_13 okJ6_bitCount_0f7a4 q1_185 q1_186 rfl (Nat.le_of_ble_eq_true rfl) (Nat.le_of_ble_eq_true rfl) (c_bitCount (by omega)) ?_
  refine J_istore (i := 5) (lv' := [(5, .int (nI (cnt (low)))), (4, .int (nI (cnt (s)))), (3, .int (nI (sdf (s) (low)))), (0, .ref (2)), (1, .int (nI (s))), (2, .int (nI (low)))]) (pc := 16) dX0_gainAbove_16 (by decide) rfl ?_
  refine J_iload_n (i := 3) (pc := 18) dX0_gainAbove_18 rfl rfl ?_
  refine J_cSi (st := []) (As := [.int (nI (sdf (s) (low)))]) (pc := 19) dX0_gainAbove_19 okJ6_bitCount_0f7a4 q1_185 q1_186 rfl (Nat.le_of_ble_eq_true rfl) (Nat.le_of_ble_eq_true rfl) (c_bitCount (by omega)) ?_
  refine J_istore (i := 6) (lv' := [(6, .int (nI (cnt (sdf (s) (low))))), (5, .int (nI (cnt (low)))), (4, .int (nI (cnt (s)))), (3, .int (nI (sdf (s) (low)))), (0, .ref (2)), (1, .int (nI (s))), (2, .int (nI (low)))]) (pc := 22) dX0_gainAbove_22 (by decide) rfl ?_
  refine J_aload_n (i := 0) (pc := 24) dX0_gainAbove_24 rfl rfl ?_
  refine J_iload_n (i := 2) (pc := 25) dX0_gainAbove_25 rfl rfl ?_
  refine J_cVi (st := []) (As := [.int (nI (low))]) (pc := 26) dX0_gainAbove_26 okX0_squares q1_207 q1_209 qs1_3 (rfl : vwCl[0]? = some _) b2 rfl (Nat.le_of_ble_eq_true rfl) (Nat.le_of_ble_eq_true rfl) (c_squares hB (by omega)) ?_
  refine J_iload (i := 6) (pc := 29) dX0_gainAbove_29 rfl ?_
  refine J_imulN (pc := 31) dX0_gainAbove_31 ?_
  refine J_iload (i := 4) (pc := 32) dX0_gainAbove_32 rfl ?_
  refine J_imulN (pc := 34) dX0_gainAbove_34 ?_
  refine J_aload_n (i := 0) (pc := 35) dX0_gainAbove_35 rfl rfl ?_
  refine J_iload_n (i := 3) (pc := 36) dX0_gainAbove_36 rfl rfl ?_
  refine J_cVi (st := [.int (nI (((sqs β low) * (cnt (sdf (s) (low)))) * (cnt (s))))]) (As := [.int (nI (sdf (s) (low)))]) (pc := 37) dX0_gainAbove_37 okX0_squares q1_207 q1_209 qs1_3 (rfl : vwCl[0]? = some _) b2 rfl (Nat.le_of_ble_eq_true rfl) (Nat.le_of_ble_eq_true rfl) (c_squares hB (by omega)) ?_
  refine J_iload (i := 5) (pc := 40) dX0_gainAbove_40 rfl ?_
  refine J_imulN (pc := 42) dX0_gainAbove_42 ?_
  refine J_iload (i := 4) (pc := 43) dX0_gainAbove_43 rfl ?_
  refine J_imulN (pc := 45) dX0_gainAbove_45 ?_
  refine J_iaddN (pc := 46) dX0_gainAbove_46 ?_
  refine J_aload_n (i := 0) (pc := 47) dX0_gainAbove_47 rfl rfl ?_
  refine J_iload_n (i := 1) (pc := 48) dX0_gainAbove_48 rfl rfl ?_
  refine J_cVi (st := [.int (nI ((((sqs β low) * (cnt (sdf (s) (low)))) * (cnt (s))) + (((sqs β (sdf (s) (low))) * (cnt (low))) * (cnt (s)))))]) (As := [.int (nI (s))]) (pc := 49) dX0_gainAbove_49 okX0_squares q1_207 q1_209 qs1_3 (rfl : vwCl[0]? = some _) b2 rfl (Nat.le_of_ble_eq_true rfl) (Nat.le_of_ble_eq_true rfl) (c_squares hB (by omega)) ?_
  refine J_iload (i := 5) (pc := 52) dX0_gainAbove_52 rfl ?_
  refine J_imulN (pc := 54) dX0_gainAbove_54 ?_
  refine J_iload (i := 6) (pc := 55) dX0_gainAbove_55 rfl ?_
  refine J_imulN (pc := 57) dX0_gainAbove_57 ?_
  refine J_isubN (pc := 58) dX0_gainAbove_58 h7 ?_
  refine J_iret (ty := .int) (pc := 59) dX0_gainAbove_59 rfl rfl ?_
  exact ⟨rfl, rfl⟩

/-- the scan for the best cut: what is best so far, its gain above and below -/
def prevS (β : BT) (s m : Nat) : Nat → Nat
  | 0 => 0
  | x + 1 => s &&& mkL β m x
def stepS (β : BT) (s le m x : Nat) (t : Option Nat × Nat × Nat) : Option Nat × Nat × Nat :=
  if (s &&& mkL β m x) ≠ prevS β s m x ∧ (decide (le ≤ cnt (s &&& mkL β m x)) && decide (le ≤ cnt (sdf s (s &&& mkL β m x)))) = true ∧ t.2.1 * gB s (s &&& mkL β m x) < gA β s (s &&& mkL β m x) * t.2.2 then (some (m * 51 + x), gA β s (s &&& mkL β m x), gB s (s &&& mkL β m x)) else t
def scF (β : BT) (s le m : Nat) : Nat → Nat → Option Nat × Nat × Nat → Option Nat × Nat × Nat
  | 0, _, t => t
  | k + 1, x, t => scF β s le m k (x + 1) (stepS β s le m x t)
def soF (β : BT) (s le : Nat) : Nat → Nat → Option Nat × Nat × Nat → Option Nat × Nat × Nat
  | 0, _, t => t
  | k + 1, m, t => soF β s le k (m + 1) (scF β s le m 50 0 t)
def bestS (β : BT) (s le : Nat) : Option Nat := (soF β s le 3 0 (none, 0, 1)).1
def invS (t : Option Nat × Nat × Nat) : Prop := t.2.1 ≤ 960000 ∧ t.2.2 ≤ 8000
theorem invS_step {β : BT} {s le m x : Nat} {t : Option Nat × Nat × Nat} (h : invS t) : invS (stepS β s le m x t) := by
  unfold stepS
  split
  · exact ⟨gA_le _ _ _, gB_le _ _⟩
  · exact h
theorem invS_scF {β : BT} {s le m : Nat} : ∀ (k x : Nat) (t : Option Nat × Nat × Nat), invS t → invS (scF β s le m k x t)
  | 0, _, _, h => h
  | k + 1, x, _, h => invS_scF k (x + 1) _ (invS_step h)
theorem prevS_lt {β : BT} {s m x : Nat} (hs : s < 2 ^ 20) : prevS β s m x < 2 ^ 20 := by
  cases x with
  | zero => exact (by decide : 0 < 2 ^ 20)
  | succ x => exact Nat.lt_of_le_of_lt Nat.and_le_left hs

set_option maxHeartbeats 2000000 in
set_option maxRecDepth 20000 in
theorem bc_in {g : GT} {d : Nat} {h : MH} {β : BT} (hB : BH h β) {s le m : Nat} {Q : RT → MH → Prop} (hs : s < 2 ^ 20) (he : le < 2 ^ 31) (hm : m < 3) : ∀ (k x : Nat) (t : Option Nat × Nat × Nat), x + k = 50 → invS t →
    J g (d + 4) 0 0 mX0_bestCut 122 [(3, .int (enc ((scF β s le m k x t).1))), (4, .long (lN ((scF β s le m k x t).2.1))), (6, .long (lN ((scF β s le m k x t).2.2))), (8, .int (nI (m))), (0, .ref (2)), (1, .int (nI (s))), (2, .int (nI (le)))] [] h Q → J g (d + 4) 0 0 mX0_bestCut 23 [(10, .int (nI (x))), (9, .int (nI (prevS β s m x))), (3, .int (enc (t.1))), (4, .long (lN (t.2.1))), (6, .long (lN (t.2.2))), (8, .int (nI (m))), (0, .ref (2)), (1, .int (nI (s))), (2, .int (nI (le)))] [] h Q := by
  obtain ⟨hW, mf, sf, tf, lf, b2, b3, bm, b7, b8, b9, em, es, et, el⟩ := id hB
  obtain ⟨hn, hc, hm5, hs2⟩ := id hW
  have hp := pw_le hn
  intro k
  induction k with
  | zero =>
    intro x t hk hi hx
    have hi2 := hi.1
    have hi3 := hi.2
    refine J_iload (i := 10) (pc := 23) dX0_bestCut_23 rfl ?_
    refine J_bipush (v := nI (50)) (pc := 25) dX0_bestCut_25 rfl ?_
    refine J_icmp_geN (tgt := 122) (pc := 27) dX0_bestCut_27 (by decide) (by omega) (by omega) (fun c27 => ?_) (fun c27 => by exfalso; first | omega | simp_all)
    refine J_sub (lv' := [(3, .int (enc (t.1))), (4, .long (lN (t.2.1))), (6, .long (lN (t.2.2))), (8, .int (nI (m))), (0, .ref (2)), (1, .int (nI (s))), (2, .int (nI (le)))]) [2, 3, 4, 5, 6, 7, 8] rfl ?_
    exact hx
  | succ k ih =>
    intro x t hk hi hx
    have hi2 := hi.1
    have hi3 := hi.2
    have hmul1 : t.2.1 * gB s (s &&& mkL β m x) ≤ 960000 * 8000 := Nat.mul_le_mul hi.1 (gB_le _ _)
    have hmul2 : gA β s (s &&& mkL β m x) * t.2.2 ≤ 960000 * 8000 := Nat.mul_le_mul (gA_le _ _ _) hi.2
    refine J_iload (i := 10) (pc := 23) dX0_bestCut_23 rfl ?_
    refine J_bipush (v := nI (50)) (pc := 25) dX0_bestCut_25 rfl ?_
    refine J_icmp_geN (tgt := 122) (pc := 27) dX0_bestCut_27 (by decide) (by omega) (by omega) (fun c27 => by exfalso; first | omega | simp_all) (fun c27 => ?_)
    refine J_aload_n (i := 0) (pc := 30) dX0_bestCut_30 rfl rfl ?_
    refine J_iload_n (i := 1) (pc := 31) dX0_bestCut_31 rfl rfl ?_
    refine J_iload (i := 8) (pc := 32) dX0_bestCut_32 rfl ?_
    refine J_bipush (v := nI (51)) (pc := 34) dX0_bestCut_34 rfl ?_
    refine J_imulN (pc := 36) dX0_bestCut_36 ?_
    refine J_iload (i := 10) (pc := 37) dX0_bestCut_37 rfl ?_
    refine J_iaddN (pc := 39) dX0_bestCut_39 ?_
    refine J_cVi (st := []) (As := [.int (nI (s)), .int (nI (((m) * (51)) + x))]) (pc := 40) dX0_bestCut_40 okX0_lowOf q1_196 q1_197 q1_198 (rfl : vwCl[0]? = some _) b2 rfl (Nat.le_of_ble_eq_true rfl) (Nat.le_of_ble_eq_true rfl) (c_lowOf hB hm (by omega)) ?_
    obtain ⟨low, elow⟩ : ∃ z : Nat, z = s &&& mkL β m x := ⟨_, rfl⟩
    rw [← elow]
    have hlow : low ≤ s := by rw [elow]; exact Nat.and_le_left
    have hpv := prevS_lt (β := β) (m := m) (x := x) hs
    have hgA := gA_le β s low
    have hgB := gB_le s low
    rw [← elow] at hmul1 hmul2
    refine J_istore (i := 11) (lv' := [(11, .int (nI (low))), (10, .int (nI (x))), (9, .int (nI (prevS β s m x))), (3, .int (enc (t.1))), (4, .long (lN (t.2.1))), (6, .long (lN (t.2.2))), (8, .int (nI (m))), (0, .ref (2)), (1, .int (nI (s))), (2, .int (nI (le)))]) (pc := 43) dX0_bestCut_43 (by decide) rfl ?_
    refine J_iload (i := 11) (pc := 45) dX0_bestCut_45 rfl ?_
    refine J_iload (i := 9) (pc := 47) dX0_bestCut_47 rfl ?_
    refine J_icmp_eqN (tgt := 112) (pc := 49) dX0_bestCut_49 (by decide) (by omega) (by omega) (fun c49 => ?_) (fun c49 => ?_)
    · skip
      refine J_iload (i := 11) (pc := 112) dX0_bestCut_112 rfl ?_
      refine J_istore (i := 9) (lv' := [(9, .int (nI (low))), (11, .int (nI (low))), (10, .int (nI (x))), (3, .int (enc (t.1))), (4, .long (lN (t.2.1))), (6, .long (lN (t.2.2))), (8, .int (nI (m))), (0, .ref (2)), (1, .int (nI (s))), (2, .int (nI (le)))]) (pc := 114) dX0_bestCut_114 (by decide) rfl ?_
      refine J_iinc (i := 10) (v := nI (x + 1)) (lv' := [(10, .int (nI (x + 1))), (9, .int (nI (low))), (11, .int (nI (low))), (3, .int (enc (t.1))), (4, .long (lN (t.2.1))), (6, .long (lN (t.2.2))), (8, .int (nI (m))), (0, .ref (2)), (1, .int (nI (s))), (2, .int (nI (le)))]) (pc := 116) dX0_bestCut_116 rfl (nI_add (x) 1) (by decide) rfl ?_
      refine J_goto (tgt := 23) (pc := 119) dX0_bestCut_119 (by decide) ?_
      refine J_sub (lv' := [(10, .int (nI (x + 1))), (9, .int (nI (low))), (3, .int (enc (t.1))), (4, .long (lN (t.2.1))), (6, .long (lN (t.2.2))), (8, .int (nI (m))), (0, .ref (2)), (1, .int (nI (s))), (2, .int (nI (le)))]) [0, 1, 3, 4, 5, 6, 7, 8, 9] rfl ?_
      have e9 : stepS β s le m x t = t := by 
        rw [stepS, ← elow]
        refine if_neg ?_
        intro q
        first
        | exact absurd c49 q.1
        | (have q2 := q.2.1; rw [c59] at q2; exact absurd q2 (by decide))
        | (have q3 := q.2.2; omega)
      have r := ih (x + 1) (stepS β s le m x t) (by omega) (invS_step hi) hx
      rw [e9] at r
      rw [elow]
      exact r
    · skip
      refine J_iload_n (i := 1) (pc := 52) dX0_bestCut_52 rfl rfl ?_
      refine J_iload (i := 11) (pc := 53) dX0_bestCut_53 rfl ?_
      refine J_iload_n (i := 2) (pc := 55) dX0_bestCut_55 rfl rfl ?_
      refine J_cSi (st := []) (As := [.int (nI (s)), .int (nI (low)), .int (nI (le))]) (pc := 56) dX0_bestCut_56 okX0_leavesBoth q1_200 q1_201 rfl (Nat.le_of_ble_eq_true rfl) (Nat.le_of_ble_eq_true rfl) (c_leavesBoth (by omega) (by omega) (by omega)) ?_
      refine J_if_eqB (tgt := 112) (pc := 59) dX0_bestCut_59 (by decide) (fun c59 => ?_) (fun c59 => ?_)
      · skip
        refine J_iload (i := 11) (pc := 112) dX0_bestCut_112 rfl ?_
        refine J_istore (i := 9) (lv' := [(9, .int (nI (low))), (11, .int (nI (low))), (10, .int (nI (x))), (3, .int (enc (t.1))), (4, .long (lN (t.2.1))), (6, .long (lN (t.2.2))), (8, .int (nI (m))), (0, .ref (2)), (1, .int (nI (s))), (2, .int (nI (le)))]) (pc := 114) dX0_bestCut_114 (by decide) rfl ?_
        refine J_iinc (i := 10) (v := nI (x + 1)) (lv' := [(10, .int (nI (x + 1))), (9, .int (nI (low))), (11, .int (nI (low))), (3, .int (enc (t.1))), (4, .long (lN (t.2.1))), (6, .long (lN (t.2.2))), (8, .int (nI (m))), (0, .ref (2)), (1, .int (nI (s))), (2, .int (nI (le)))]) (pc := 116) dX0_bestCut_116 rfl (nI_add (x) 1) (by decide) rfl ?_
        refine J_goto (tgt := 23) (pc := 119) dX0_bestCut_119 (by decide) ?_
        refine J_sub (lv' := [(10, .int (nI (x + 1))), (9, .int (nI (low))), (3, .int (enc (t.1))), (4, .long (lN (t.2.1))), (6, .long (lN (t.2.2))), (8, .int (nI (m))), (0, .ref (2)), (1, .int (nI (s))), (2, .int (nI (le)))]) [0, 1, 3, 4, 5, 6, 7, 8, 9] rfl ?_
        have e9 : stepS β s le m x t = t := by 
          rw [stepS, ← elow]
          refine if_neg ?_
          intro q
          first
          | exact absurd c49 q.1
          | (have q2 := q.2.1; rw [c59] at q2; exact absurd q2 (by decide))
          | (have q3 := q.2.2; omega)
        have r := ih (x + 1) (stepS β s le m x t) (by omega) (invS_step hi) hx
        rw [e9] at r
        rw [elow]
        exact r
      · skip
        refine J_aload_n (i := 0) (pc := 62) dX0_bestCut_62 rfl rfl ?_
        refine J_iload_n (i := 1) (pc := 63) dX0_bestCut_63 rfl rfl ?_
        refine J_iload (i := 11) (pc := 64) dX0_bestCut_64 rfl ?_
        refine J_cVi (st := []) (As := [.int (nI (s)), .int (nI (low))]) (pc := 66) dX0_bestCut_66 okX0_gainAbove q1_203 q1_204 q1_205 (rfl : vwCl[0]? = some _) b2 rfl (Nat.le_of_ble_eq_true rfl) (Nat.le_of_ble_eq_true rfl) (c_gainAbove hB (by omega) (by assumption)) ?_
        refine J_i2lN (pc := 69) dX0_bestCut_69 (by omega) ?_
        refine J_lstore (i := 12) (lv' := [(12, .long (lN (gA β s low))), (11, .int (nI (low))), (10, .int (nI (x))), (9, .int (nI (prevS β s m x))), (3, .int (enc (t.1))), (4, .long (lN (t.2.1))), (6, .long (lN (t.2.2))), (8, .int (nI (m))), (0, .ref (2)), (1, .int (nI (s))), (2, .int (nI (le)))]) (pc := 70) dX0_bestCut_70 (by decide) rfl ?_
        refine J_iload_n (i := 1) (pc := 72) dX0_bestCut_72 rfl rfl ?_
        refine J_iload (i := 11) (pc := 73) dX0_bestCut_73 rfl ?_
        refine J_cSNi (st := []) (As := [.int (nI (s)), .int (nI (low))]) (pc := 75) dX0_bestCut_75 okX2_gainBelow q1_212 q1_213 rfl (Nat.le_of_ble_eq_true rfl) (Nat.le_of_ble_eq_true rfl) (c_gainBelow (by omega) (by omega)) ?_
        refine J_i2lN (pc := 78) dX0_bestCut_78 (by omega) ?_
        refine J_lstore (i := 14) (lv' := [(14, .long (lN (gB s low))), (12, .long (lN (gA β s low))), (11, .int (nI (low))), (10, .int (nI (x))), (9, .int (nI (prevS β s m x))), (3, .int (enc (t.1))), (4, .long (lN (t.2.1))), (6, .long (lN (t.2.2))), (8, .int (nI (m))), (0, .ref (2)), (1, .int (nI (s))), (2, .int (nI (le)))]) (pc := 79) dX0_bestCut_79 (by decide) rfl ?_
        refine J_lload (i := 12) (pc := 81) dX0_bestCut_81 rfl ?_
        refine J_lload (i := 6) (pc := 83) dX0_bestCut_83 rfl ?_
        refine J_lmulN (pc := 85) dX0_bestCut_85 ?_
        refine J_lload (i := 4) (pc := 86) dX0_bestCut_86 rfl ?_
        refine J_lload (i := 14) (pc := 88) dX0_bestCut_88 rfl ?_
        refine J_lmulN (pc := 90) dX0_bestCut_90 ?_
        refine J_lcmp (pc := 91) dX0_bestCut_91 ?_
        refine J_if_le (tgt := 112) (pc := 92) dX0_bestCut_92 (by decide) (fun c92 => ?_) (fun c92 => ?_)
        · skip
          rw [lgc_le (by omega) (by omega)] at c92
          refine J_iload (i := 11) (pc := 112) dX0_bestCut_112 rfl ?_
          refine J_istore (i := 9) (lv' := [(9, .int (nI (low))), (14, .long (lN (gB s low))), (12, .long (lN (gA β s low))), (11, .int (nI (low))), (10, .int (nI (x))), (3, .int (enc (t.1))), (4, .long (lN (t.2.1))), (6, .long (lN (t.2.2))), (8, .int (nI (m))), (0, .ref (2)), (1, .int (nI (s))), (2, .int (nI (le)))]) (pc := 114) dX0_bestCut_114 (by decide) rfl ?_
          refine J_iinc (i := 10) (v := nI (x + 1)) (lv' := [(10, .int (nI (x + 1))), (9, .int (nI (low))), (14, .long (lN (gB s low))), (12, .long (lN (gA β s low))), (11, .int (nI (low))), (3, .int (enc (t.1))), (4, .long (lN (t.2.1))), (6, .long (lN (t.2.2))), (8, .int (nI (m))), (0, .ref (2)), (1, .int (nI (s))), (2, .int (nI (le)))]) (pc := 116) dX0_bestCut_116 rfl (nI_add (x) 1) (by decide) rfl ?_
          refine J_goto (tgt := 23) (pc := 119) dX0_bestCut_119 (by decide) ?_
          refine J_sub (lv' := [(10, .int (nI (x + 1))), (9, .int (nI (low))), (3, .int (enc (t.1))), (4, .long (lN (t.2.1))), (6, .long (lN (t.2.2))), (8, .int (nI (m))), (0, .ref (2)), (1, .int (nI (s))), (2, .int (nI (le)))]) [0, 1, 5, 6, 7, 8, 9, 10, 11] rfl ?_
          have e9 : stepS β s le m x t = t := by 
            rw [stepS, ← elow]
            refine if_neg ?_
            intro q
            first
            | exact absurd c49 q.1
            | (have q2 := q.2.1; rw [c59] at q2; exact absurd q2 (by decide))
            | (have q3 := q.2.2; omega)
          have r := ih (x + 1) (stepS β s le m x t) (by omega) (invS_step hi) hx
          rw [e9] at r
          rw [elow]
          exact r
        · skip
          rw [lgc_le (by omega) (by omega)] at c92
          refine J_iload (i := 8) (pc := 95) dX0_bestCut_95 rfl ?_
          refine J_bipush (v := nI (51)) (pc := 97) dX0_bestCut_97 rfl ?_
          refine J_imulN (pc := 99) dX0_bestCut_99 ?_
          refine J_iload (i := 10) (pc := 100) dX0_bestCut_100 rfl ?_
          refine J_iaddN (pc := 102) dX0_bestCut_102 ?_
          refine J_istore_n (i := 3) (lv' := [(3, .int (nI (((m) * (51)) + x))), (14, .long (lN (gB s low))), (12, .long (lN (gA β s low))), (11, .int (nI (low))), (10, .int (nI (x))), (9, .int (nI (prevS β s m x))), (4, .long (lN (t.2.1))), (6, .long (lN (t.2.2))), (8, .int (nI (m))), (0, .ref (2)), (1, .int (nI (s))), (2, .int (nI (le)))]) (pc := 103) dX0_bestCut_103 rfl (by decide) rfl ?_
          refine J_lload (i := 12) (pc := 104) dX0_bestCut_104 rfl ?_
          refine J_lstore (i := 4) (lv' := [(4, .long (lN (gA β s low))), (3, .int (nI (((m) * (51)) + x))), (14, .long (lN (gB s low))), (12, .long (lN (gA β s low))), (11, .int (nI (low))), (10, .int (nI (x))), (9, .int (nI (prevS β s m x))), (6, .long (lN (t.2.2))), (8, .int (nI (m))), (0, .ref (2)), (1, .int (nI (s))), (2, .int (nI (le)))]) (pc := 106) dX0_bestCut_106 (by decide) rfl ?_
          refine J_lload (i := 14) (pc := 108) dX0_bestCut_108 rfl ?_
          refine J_lstore (i := 6) (lv' := [(6, .long (lN (gB s low))), (4, .long (lN (gA β s low))), (3, .int (nI (((m) * (51)) + x))), (14, .long (lN (gB s low))), (12, .long (lN (gA β s low))), (11, .int (nI (low))), (10, .int (nI (x))), (9, .int (nI (prevS β s m x))), (8, .int (nI (m))), (0, .ref (2)), (1, .int (nI (s))), (2, .int (nI (le)))]) (pc := 110) dX0_bestCut_110 (by decide) rfl ?_
          refine J_iload (i := 11) (pc := 112) dX0_bestCut_112 rfl ?_
          refine J_istore (i := 9) (lv' := [(9, .int (nI (low))), (6, .long (lN (gB s low))), (4, .long (lN (gA β s low))), (3, .int (nI (((m) * (51)) + x))), (14, .long (lN (gB s low))), (12, .long (lN (gA β s low))), (11, .int (nI (low))), (10, .int (nI (x))), (8, .int (nI (m))), (0, .ref (2)), (1, .int (nI (s))), (2, .int (nI (le)))]) (pc := 114) dX0_bestCut_114 (by decide) rfl ?_
          refine J_iinc (i := 10) (v := nI (x + 1)) (lv' := [(10, .int (nI (x + 1))), (9, .int (nI (low))), (6, .long (lN (gB s low))), (4, .long (lN (gA β s low))), (3, .int (nI (((m) * (51)) + x))), (14, .long (lN (gB s low))), (12, .long (lN (gA β s low))), (11, .int (nI (low))), (8, .int (nI (m))), (0, .ref (2)), (1, .int (nI (s))), (2, .int (nI (le)))]) (pc := 116) dX0_bestCut_116 rfl (nI_add (x) 1) (by decide) rfl ?_
          refine J_goto (tgt := 23) (pc := 119) dX0_bestCut_119 (by decide) ?_
          refine J_sub (lv' := [(10, .int (nI (x + 1))), (9, .int (nI (low))), (3, .int (nI (((m) * (51)) + x))), (4, .long (lN (gA β s low))), (6, .long (lN (gB s low))), (8, .int (nI (m))), (0, .ref (2)), (1, .int (nI (s))), (2, .int (nI (le)))]) [0, 1, 4, 3, 2, 8, 9, 10, 11] rfl ?_
          have e9 : stepS β s le m x t = (some (m * 51 + x), gA β s low, gB s low) := by rw [stepS, ← elow, if_pos ⟨c49, c59, by omega⟩]
          have r := ih (x + 1) (stepS β s le m x t) (by omega) (invS_step hi) hx
          rw [e9] at r
          rw [elow]
          rw [elow] at r
          exact r

set_option maxHeartbeats 2000000 in
set_option maxRecDepth 20000 in
theorem bc_out {g : GT} {d : Nat} {h : MH} {β : BT} (hB : BH h β) {s le : Nat} (hs : s < 2 ^ 20) (he : le < 2 ^ 31) : ∀ (k m : Nat) (t : Option Nat × Nat × Nat), m + k = 3 → invS t →
    J g (d + 4) 0 0 mX0_bestCut 11 [(3, .int (enc (t.1))), (4, .long (lN (t.2.1))), (6, .long (lN (t.2.2))), (8, .int (nI (m))), (0, .ref (2)), (1, .int (nI (s))), (2, .int (nI (le)))] [] h (RI (enc (soF β s le k m t).1) h) := by
  intro k
  induction k with
  | zero =>
    intro x t hk hi
    obtain rfl : x = 3 := by omega
    refine J_iload (i := 8) (pc := 11) dX0_bestCut_11 rfl ?_
    refine J_iconst (v := nI (3)) (pc := 13) dX0_bestCut_13 rfl ?_
    refine J_icmp_geN (tgt := 128) (pc := 14) dX0_bestCut_14 (by decide) (by omega) (by omega) (fun c14 => ?_) (fun c14 => by exfalso; first | omega | simp_all)
    refine J_iload_n (i := 3) (pc := 128) dX0_bestCut_128 rfl rfl ?_
    refine J_iret (ty := .int) (pc := 129) dX0_bestCut_129 rfl rfl ?_
    exact ⟨rfl, rfl⟩
  | succ k ih =>
    intro m t hk hi
    refine J_iload (i := 8) (pc := 11) dX0_bestCut_11 rfl ?_
    refine J_iconst (v := nI (3)) (pc := 13) dX0_bestCut_13 rfl ?_
    refine J_icmp_geN (tgt := 128) (pc := 14) dX0_bestCut_14 (by decide) (by omega) (by omega) (fun c14 => by exfalso; first | omega | simp_all) (fun c14 => ?_)
    refine J_iconst (v := nI (0)) (pc := 17) dX0_bestCut_17 rfl ?_
    refine J_istore (i := 9) (lv' := [(9, .int (nI (0))), (3, .int (enc (t.1))), (4, .long (lN (t.2.1))), (6, .long (lN (t.2.2))), (8, .int (nI (m))), (0, .ref (2)), (1, .int (nI (s))), (2, .int (nI (le)))]) (pc := 18) dX0_bestCut_18 (by decide) rfl ?_
    refine J_iconst (v := nI (0)) (pc := 20) dX0_bestCut_20 rfl ?_
    refine J_istore (i := 10) (lv' := [(10, .int (nI (0))), (9, .int (nI (0))), (3, .int (enc (t.1))), (4, .long (lN (t.2.1))), (6, .long (lN (t.2.2))), (8, .int (nI (m))), (0, .ref (2)), (1, .int (nI (s))), (2, .int (nI (le)))]) (pc := 21) dX0_bestCut_21 (by decide) rfl ?_
    refine J_sub (lv' := [(10, .int (nI (0))), (9, .int (nI (0))), (3, .int (enc (t.1))), (4, .long (lN (t.2.1))), (6, .long (lN (t.2.2))), (8, .int (nI (m))), (0, .ref (2)), (1, .int (nI (s))), (2, .int (nI (le)))]) [0, 1, 2, 3, 4, 5, 6, 7, 8] rfl ?_
    refine bc_in hB hs he (by omega) 50 0 t (by omega) hi ?_
    refine J_iinc (pc := 122) (i := 8) (v := nI (m + 1)) (lv' := [(8, .int (nI (m + 1))), (3, .int (enc ((scF β s le m 50 0 t).1))), (4, .long (lN ((scF β s le m 50 0 t).2.1))), (6, .long (lN ((scF β s le m 50 0 t).2.2))), (0, .ref (2)), (1, .int (nI (s))), (2, .int (nI (le)))]) dX0_bestCut_122 rfl (nI_add (m) 1) (by decide) rfl ?_
    refine J_goto (pc := 125) (tgt := 11) dX0_bestCut_125 (by decide) ?_
    refine J_sub (lv' := [(3, .int (enc ((scF β s le m 50 0 t).1))), (4, .long (lN ((scF β s le m 50 0 t).2.1))), (6, .long (lN ((scF β s le m 50 0 t).2.2))), (8, .int (nI (m + 1))), (0, .ref (2)), (1, .int (nI (s))), (2, .int (nI (le)))]) [1, 2, 3, 0, 4, 5, 6] rfl ?_
    exact ih (m + 1) (scF β s le m 50 0 t) (by omega) (invS_scF _ _ _ hi)
theorem c_bestCut {g : GT} {d : Nat} {h : MH} {β : BT} (hB : BH h β) {s le : Nat} (hs : s < 2 ^ 20) (he : le < 2 ^ 31) : J g (d + 4) 0 0 mX0_bestCut 0 (lv_args 0 [.ref 2, .int (nI s), .int (nI le)]) [] h (RI (enc (bestS β s le)) h) := by
  refine J_iconst (v := (-1)) (pc := 0) dX0_bestCut_0 rfl ?_
  refine J_istore_n (i := 3) (lv' := [(3, .int (-1)), (0, .ref (2)), (1, .int (nI (s))), (2, .int (nI (le)))]) (pc := 1) dX0_bestCut_1 rfl (by decide) rfl ?_
  refine J_lconst (v := lN 0) (pc := 2) dX0_bestCut_2 rfl ?_
  refine J_lstore (i := 4) (lv' := [(4, .long (lN (0))), (3, .int (-1)), (0, .ref (2)), (1, .int (nI (s))), (2, .int (nI (le)))]) (pc := 3) dX0_bestCut_3 (by decide) rfl ?_
  refine J_lconst (v := lN 1) (pc := 5) dX0_bestCut_5 rfl ?_
  refine J_lstore (i := 6) (lv' := [(6, .long (lN (1))), (4, .long (lN (0))), (3, .int (-1)), (0, .ref (2)), (1, .int (nI (s))), (2, .int (nI (le)))]) (pc := 6) dX0_bestCut_6 (by decide) rfl ?_
  refine J_iconst (v := nI (0)) (pc := 8) dX0_bestCut_8 rfl ?_
  refine J_istore (i := 8) (lv' := [(8, .int (nI (0))), (6, .long (lN (1))), (4, .long (lN (0))), (3, .int (-1)), (0, .ref (2)), (1, .int (nI (s))), (2, .int (nI (le)))]) (pc := 9) dX0_bestCut_9 (by decide) rfl ?_
  refine J_sub (lv' := [(3, .int (-1)), (4, .long (lN (0))), (6, .long (lN (1))), (8, .int (nI (0))), (0, .ref (2)), (1, .int (nI (s))), (2, .int (nI (le)))]) [3, 2, 1, 0, 4, 5, 6] rfl ?_
  exact bc_out hB hs he 3 0 (none, 0, 1) rfl ⟨by decide, by decide⟩
