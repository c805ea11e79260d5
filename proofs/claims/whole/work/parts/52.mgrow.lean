-- the reference: the best cut as a whole; growing
set_option maxHeartbeats 2000000 in
set_option maxRecDepth 20000 in
theorem mb_out {g : GT} {d : Nat} {β : BT} {s le : Nat} {Q : RT → MH → Prop} (hs : s < 2 ^ β.1) (he : 1 ≤ le) (he2 : le < 1000) : ∀ (k m : Nat) (t : Option Nat × Nat × Nat) (h : MH) (A : Nat) (f : Nat → Int64), m + k = 3 → invS t → MS h β → 60 ≤ h.1 → (h.2 A = some (aJ 2 f) ∧ f 0 = lN (t).2.1 ∧ f 1 = lN (t).2.2 ∧ A < h.1) → (∀ h', Ext h h' → Q (.inl (some (.int (enc (soF β s le k m t).1)))) h') →
    J g (d + 4) (k * (cnt s - 1)) (2 * (k * (cnt s - 1))) mX3_bestOf 18 [(5, .int (nI (m))), (4, .ref (A)), (3, .int (enc (t.1))), (0, .ref (53)), (1, .int (nI (s))), (2, .int (nI (le)))] [] h Q := by
  intro k
  induction k with
  | zero =>
    intro m t h A f hk hi hM hz hS hx
    refine J_iload (i := 5) (pc := 18) dX3_bestOf_18 rfl ?_
    refine J_iconst (v := nI (3)) (pc := 20) dX3_bestOf_20 rfl ?_
    refine J_icmp_geN (tgt := 149) (pc := 21) dX3_bestOf_21 (by decide) (by omega) (by omega) (fun c21 => ?_) (fun c21 => by exfalso; first | omega | simp_all)
    refine J_iload_n (i := 3) (pc := 149) dX3_bestOf_149 rfl rfl ?_
    refine J_iret (ty := .int) (pc := 150) dX3_bestOf_150 rfl rfl ?_
    exact hx h Ext_rfl
  | succ k ih =>
    intro m t h A f hk hi hM hz hS hx
    refine J_iload (i := 5) (pc := 18) dX3_bestOf_18 rfl ?_
    refine J_iconst (v := nI (3)) (pc := 20) dX3_bestOf_20 rfl ?_
    refine J_icmp_geN (tgt := 149) (pc := 21) dX3_bestOf_21 (by decide) (by omega) (by omega) (fun c21 => by exfalso; first | omega | simp_all) (fun c21 => ?_)
    refine J_iconst (v := nI (0)) (pc := 24) dX3_bestOf_24 rfl ?_
    refine J_istore (i := 6) (lv' := [(6, .int (nI (0))), (5, .int (nI (m))), (4, .ref (A)), (3, .int (enc (t.1))), (0, .ref (53)), (1, .int (nI (s))), (2, .int (nI (le)))]) (pc := 25) dX3_bestOf_25 (by decide) rfl ?_
    refine J_sub (lv' := [(6, .int (nI (0))), (5, .int (nI (m))), (4, .ref (A)), (3, .int (enc (t.1))), (0, .ref (53)), (1, .int (nI (s))), (2, .int (nI (le)))]) [0, 1, 2, 3, 4, 5, 6] rfl ?_
    have hk9 : (k + 1) * (cnt s - 1) = k * (cnt s - 1) + (cnt s - 1) := Nat.succ_mul _ _
    refine J_bud (ca' := cnt s - 1 + k * (cnt s - 1)) (sa' := 2 * (cnt s - 1 + k * (cnt s - 1))) (by omega) (by omega) ?_
    refine mb_in hs he he2 (by omega) 50 0 (cnt s - 1) t h A f (by omega) hi hM hz hS (by show cnt s ≤ cnt 0 + (cnt s - 1) + 1; rw [show cnt 0 = 0 from rfl]; omega) ?_
    intro h2 f2 A2 x2 st2
    refine J_iinc (i := 5) (v := nI (m + 1)) (lv' := [(5, .int (nI (m + 1))), (4, .ref (A2)), (3, .int (enc ((scF β s le m 50 0 t).1))), (0, .ref (53)), (1, .int (nI (s))), (2, .int (nI (le)))]) (pc := 143) dX3_bestOf_143 rfl (nI_add (m) 1) (by decide) rfl ?_
    refine J_goto (tgt := 18) (pc := 146) dX3_bestOf_146 (by decide) ?_
    refine J_sub (lv' := [(5, .int (nI (m + 1))), (4, .ref (A2)), (3, .int (enc ((scF β s le m 50 0 t).1))), (0, .ref (53)), (1, .int (nI (s))), (2, .int (nI (le)))]) [0, 1, 2, 3, 4, 5] rfl ?_
    exact ih (m + 1) (scF β s le m 50 0 t) h2 A2 f2 (by omega) (invS_scF _ _ _ hi) (MS_ext x2 hz hM) (by have := x2.1; omega) st2 (fun h' x9 => hx h' (Ext_tr x2 x9))
theorem m_bestOf {g : GT} {d : Nat} {h : MH} {β : BT} (hM : MS h β) {s le : Nat} (hz : 60 ≤ h.1) (hs : s < 2 ^ β.1) (he : 1 ≤ le) (he2 : le < 1000) : J g (d + 4) (1 + 3 * (cnt s - 1)) (2 + 2 * (3 * (cnt s - 1))) mX3_bestOf 0 (lv_args 0 [.ref 53, .int (nI s), .int (nI le)]) [] h (RH (enc (bestS β s le)) (fun h' => Ext h h')) := by
  refine J_iconst (v := (-1)) (pc := 0) dX3_bestOf_0 rfl ?_
  refine J_istore_n (i := 3) (lv' := [(3, .int (-1)), (0, .ref (53)), (1, .int (nI (s))), (2, .int (nI (le)))]) (pc := 1) dX3_bestOf_1 rfl (by decide) rfl ?_
  refine J_iconst (v := nI (2)) (pc := 2) dX3_bestOf_2 rfl ?_
  obtain ⟨A_1, eA_1⟩ : ∃ z : Nat, z = h.1 := ⟨_, rfl⟩
  obtain ⟨h_2, eh_2⟩ : ∃ z : MH, z = (A_1 + 1, hset h.2 A_1 (aJ (2) (fun _ => 0))) := ⟨_, rfl⟩
  refine J_newJA (A := A_1) (h' := h_2) (n := 2) (ca' := 3 * (cnt s - 1)) (sa' := 2 * (3 * (cnt s - 1))) (pc := 3) dX3_bestOf_3 rfl (by decide) (by omega) (by omega) eA_1 eh_2 ?_
  have zh_2 : h_2.1 = A_1 + 1 := by rw [eh_2]
  have H_3 : Ext h h_2 := Ext_new Ext_rfl eA_1 eh_2
  have H_4 : MS h_2 β := MS_oth (fun i i1 i2 => ha_n eh_2 (by omega)) hM
  have H_5 : h_2.2 (A_1) = some (aJ (2) (fun _ => 0)) := ha_s eh_2
  refine J_dup (pc := 5) dX3_bestOf_5 rfl ?_
  refine J_iconst (v := nI (0)) (pc := 6) dX3_bestOf_6 rfl ?_
  refine J_lconst (v := lN 0) (pc := 7) dX3_bestOf_7 rfl ?_
  refine J_last (j := 0) (pc := 8) dX3_bestOf_8 H_5 rfl (by omega) (by omega) ?_
  obtain ⟨h_6, eh_6⟩ : ∃ z : MH, z = (h_2.1, hset h_2.2 (A_1) (aJ (2) (vp_updL ((fun _ => 0)) (0) (lN (0))))) := ⟨_, rfl⟩
  refine J_heq (h2 := h_6) eh_6 ?_
  have zh_6 : h_6.1 = h_2.1 := by rw [eh_6]
  have H_7 : Ext h h_6 := by rw [eh_6]; exact Ext_st H_3 (by omega) rfl
  have H_8 : MS h_6 β := by rw [eh_6]; exact MS_oth (fun i i1 i2 => hset_n (by omega)) H_4
  have H_9 : h_6.2 (A_1) = some (aJ (2) (vp_updL ((fun _ => 0)) (0) (lN (0)))) := hs_s eh_6
  refine J_dup (pc := 9) dX3_bestOf_9 rfl ?_
  refine J_iconst (v := nI (1)) (pc := 10) dX3_bestOf_10 rfl ?_
  refine J_lconst (v := lN 1) (pc := 11) dX3_bestOf_11 rfl ?_
  refine J_last (j := 1) (pc := 12) dX3_bestOf_12 H_9 rfl (by omega) (by omega) ?_
  obtain ⟨h_10, eh_10⟩ : ∃ z : MH, z = (h_6.1, hset h_6.2 (A_1) (aJ (2) (vp_updL (vp_updL ((fun _ => 0)) (0) (lN (0))) (1) (lN (1))))) := ⟨_, rfl⟩
  refine J_heq (h2 := h_10) eh_10 ?_
  have zh_10 : h_10.1 = h_6.1 := by rw [eh_10]
  have H_11 : Ext h h_10 := by rw [eh_10]; exact Ext_st H_7 (by omega) rfl
  have H_12 : MS h_10 β := by rw [eh_10]; exact MS_oth (fun i i1 i2 => hset_n (by omega)) H_8
  have H_13 : h_10.2 (A_1) = some (aJ (2) (vp_updL (vp_updL ((fun _ => 0)) (0) (lN (0))) (1) (lN (1)))) := hs_s eh_10
  refine J_astore (i := 4) (lv' := [(4, .ref (A_1)), (3, .int (-1)), (0, .ref (53)), (1, .int (nI (s))), (2, .int (nI (le)))]) (pc := 13) dX3_bestOf_13 (by decide) rfl ?_
  refine J_iconst (v := nI (0)) (pc := 15) dX3_bestOf_15 rfl ?_
  refine J_istore (i := 5) (lv' := [(5, .int (nI (0))), (4, .ref (A_1)), (3, .int (-1)), (0, .ref (53)), (1, .int (nI (s))), (2, .int (nI (le)))]) (pc := 16) dX3_bestOf_16 (by decide) rfl ?_
  refine J_sub (lv' := [(5, .int (nI (0))), (4, .ref (A_1)), (3, .int (-1)), (0, .ref (53)), (1, .int (nI (s))), (2, .int (nI (le)))]) [0, 1, 2, 3, 4, 5] rfl ?_
  exact mb_out hs he he2 3 0 (none, 0, 1) h_10 A_1 _ rfl ⟨by decide, by decide⟩ H_12 (by omega) ⟨H_13, by (rw [pk_uLn (by decide), pk_uLs]), by (rw [pk_uLs]), by omega⟩ (fun h' x9 => ⟨rfl, Ext_tr H_11 x9⟩)

theorem sort_sub (β : BT) (X z s : Nat) : ofS β (X &&& z) s ≤ ofS β X s := by
  rw [ofS_split β X z s]
  omega
theorem one_le {β : BT} (X s : Nat) : ofS β X s ≤ cnt X := pcn_mono (fun k _ h => by rw [Nat.testBit_and, Bool.and_eq_true] at h; exact h.1)
theorem one_gA {β : BT} (hW : WF β) {X m x s : Nat} (hX : X < 2 ^ β.1) (hs : s < 3) (h : ofS β X s = cnt X) : gA β X (X &&& mkL β m x) = 0 := by
  have hl : X &&& mkL β m x < 2 ^ β.1 := Nat.lt_of_le_of_lt Nat.and_le_left hX
  have hh : sdf X (X &&& mkL β m x) < 2 ^ β.1 := Nat.lt_of_le_of_lt (sdf_le _ _) hX
  have e3 := cnt_3 hW hX
  have l3 := cnt_3 hW hl
  have h3 := cnt_3 hW hh
  have hc := cnt_split2 X (mkL β m x)
  have s0 := ofS_split β X (mkL β m x) 0
  have s1 := ofS_split β X (mkL β m x) 1
  have s2 := ofS_split β X (mkL β m x) 2
  have key : sqs β X = cnt X * cnt X ∧ sqs β (X &&& mkL β m x) = cnt (X &&& mkL β m x) * cnt (X &&& mkL β m x) ∧ sqs β (sdf X (X &&& mkL β m x)) = cnt (sdf X (X &&& mkL β m x)) * cnt (sdf X (X &&& mkL β m x)) := by
    have hz : ∀ Y, ofS β Y 0 + ofS β Y 1 + ofS β Y 2 = cnt Y → (∀ q, q < 3 → q ≠ s → ofS β Y q = 0) → sqs β Y = cnt Y * cnt Y := by
      intro Y hY hq
      unfold sqs
      obtain rfl | rfl | rfl : s = 0 ∨ s = 1 ∨ s = 2 := by omega
      · rw [← hY, hq 1 (by decide) (by decide), hq 2 (by decide) (by decide)]; simp
      · rw [← hY, hq 0 (by decide) (by decide), hq 2 (by decide) (by decide)]; simp
      · rw [← hY, hq 0 (by decide) (by decide), hq 1 (by decide) (by decide)]; simp
    have h0 : ∀ q, q < 3 → q ≠ s → ofS β X q = 0 := by
      intro q hq hne
      obtain rfl | rfl | rfl : s = 0 ∨ s = 1 ∨ s = 2 := by omega
      all_goals obtain rfl | rfl | rfl : q = 0 ∨ q = 1 ∨ q = 2 := by omega
      all_goals first | omega | exact absurd rfl hne
    refine ⟨hz X e3 h0, hz _ l3 ?_, hz _ h3 ?_⟩
    · intro q hq hne
      have := h0 q hq hne
      have := ofS_split β X (mkL β m x) q
      omega
    · intro q hq hne
      have := h0 q hq hne
      have := ofS_split β X (mkL β m x) q
      omega
  unfold gA
  rw [key.1, key.2.1, key.2.2, hc]
  generalize cnt (X &&& mkL β m x) = a
  generalize cnt (sdf X (X &&& mkL β m x)) = b
  have h9 : a * a * b * (a + b) + b * b * a * (a + b) = (a + b) * (a + b) * a * b := by grind
  omega
theorem one_best {β : BT} (hW : WF β) {X le s : Nat} (hX : X < 2 ^ β.1) (hs : s < 3) (h : ofS β X s = cnt X) : bestS β X le = none := by
  cases e : bestS β X le with
  | none => rfl
  | some c =>
    have h1 := (best_P e).2.2.2.2
    unfold mkC at h1
    rw [one_gA hW hX hs h] at h1
    omega

