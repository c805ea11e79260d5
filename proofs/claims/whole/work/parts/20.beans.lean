-- the class Beans and the small static functions (printed by wip/whole/p20.py)
/-- beans: how many, which are checks, their measures, their sorts -/
abbrev BT : Type := Nat × Nat × (Nat → Nat → Nat) × (Nat → Nat)
def WF (β : BT) : Prop := β.1 ≤ 20 ∧ β.2.1 < 2 ^ β.1 ∧ (∀ m k, k < β.1 → β.2.2.1 m k ≤ 50) ∧ ∀ k, k < β.1 → β.2.2.2 k ≤ 2
def mkS (β : BT) (s : Nat) : Nat := msk (fun k => β.2.2.2 k == s) β.1
def mkL (β : BT) (m x : Nat) : Nat := msk (fun k => decide (β.2.2.1 m k ≤ x)) β.1
def gro (β : BT) : Nat := sdf (2 ^ β.1 - 1) β.2.1
/-- the small heap holds the object Beans (cell 2, its rows behind it) -/
def BH (h : MH) (β : BT) : Prop := WF β ∧ ∃ (mf : Nat → Nat → Int32) (sf tf lf : Nat → Int32),
  h.2 2 = some (oB 0 [.ref 3, .ref 7, .ref 8, .ref 9, .int (nI β.1), .int (nI β.2.1)]) ∧ h.2 3 = some (aG 3 (fun i => if i < 3 then some (4 + i) else none)) ∧
  (∀ m, m < 3 → h.2 (4 + m) = some (aI 20 (mf m))) ∧ h.2 7 = some (aI 20 sf) ∧ h.2 8 = some (aI 3 tf) ∧ h.2 9 = some (aI 153 lf) ∧
  (∀ m k, m < 3 → k < β.1 → mf m k = nI (β.2.2.1 m k)) ∧ (∀ k, k < β.1 → sf k = nI (β.2.2.2 k)) ∧ (∀ s, s < 3 → tf s = nI (mkS β s)) ∧ ∀ m x, m < 3 → x < 51 → lf (m * 51 + x) = nI (mkL β m x)
theorem mkS_lt {β : BT} (hW : WF β) (s : Nat) : mkS β s < 2 ^ 20 := Nat.lt_of_lt_of_le (msk_lt _ _) (Nat.pow_le_pow_right (by decide) hW.1)
theorem mkL_lt {β : BT} (hW : WF β) (m x : Nat) : mkL β m x < 2 ^ 20 := Nat.lt_of_lt_of_le (msk_lt _ _) (Nat.pow_le_pow_right (by decide) hW.1)
theorem pw_le {n : Nat} (h : n ≤ 20) : 1 ≤ 2 ^ n ∧ 2 ^ n ≤ 1048576 := ⟨Nat.one_le_two_pow, Nat.pow_le_pow_right (n := 2) (by decide) h⟩
theorem gro_lt {β : BT} (hW : WF β) : gro β < 2 ^ 20 := by
  have h1 := sdf_le (2 ^ β.1 - 1) β.2.1
  have h2 := pw_le hW.1
  unfold gro
  omega
theorem gro_bit (β : BT) (k : Nat) : (gro β).testBit k = (decide (k < β.1) && !β.2.1.testBit k) := by
  unfold gro
  rw [sdf_bit, Nat.testBit_two_pow_sub_one]

set_option maxHeartbeats 2000000 in
set_option maxRecDepth 20000 in
theorem c_bitCount {g : GT} {d : Nat} {h : MH} {s : Nat} (hs : s < 2 ^ 20) : J g d 0 0 mJ6_bitCount_0f7a4 0 (lv_args 0 [.int (nI s)]) [] h (RI (nI (cnt s)) h) := by
  rw [← pop_cnt hs]
  have ha : (s / 2 ^ 1) &&& 1431655765 ≤ s := Nat.le_trans Nat.and_le_left (by omega)
  refine J_iload_n (i := 0) (pc := 0) dJ6_bitCount_0f7a4_0 rfl rfl ?_
  refine J_iload_n (i := 0) (pc := 1) dJ6_bitCount_0f7a4_1 rfl rfl ?_
  refine J_iconst (v := nI (1)) (pc := 2) dJ6_bitCount_0f7a4_2 rfl ?_
  refine J_iushrN (k := 1) (pc := 3) dJ6_bitCount_0f7a4_3 (by omega) rfl ?_
  refine J_ldcw (v := nI 1431655765) (pc := 4) dJ6_bitCount_0f7a4_4 q1_131 ?_
  refine J_iandN (pc := 7) dJ6_bitCount_0f7a4_7 ?_
  refine J_isubN (pc := 8) dJ6_bitCount_0f7a4_8 (by omega) ?_
  obtain ⟨a, ea⟩ : ∃ z : Nat, z = (s) - (((s) / 2 ^ 1) &&& (1431655765)) := ⟨_, rfl⟩
  rw [← ea]
  have hb : a < 2 ^ 32 := by omega
  refine J_istore_n (i := 0) (lv' := [(0, .int (nI (a)))]) (pc := 9) dJ6_bitCount_0f7a4_9 rfl (by decide) rfl ?_
  refine J_iload_n (i := 0) (pc := 10) dJ6_bitCount_0f7a4_10 rfl rfl ?_
  refine J_ldcw (v := nI 858993459) (pc := 11) dJ6_bitCount_0f7a4_11 q1_132 ?_
  refine J_iandN (pc := 14) dJ6_bitCount_0f7a4_14 ?_
  refine J_iload_n (i := 0) (pc := 15) dJ6_bitCount_0f7a4_15 rfl rfl ?_
  refine J_iconst (v := nI (2)) (pc := 16) dJ6_bitCount_0f7a4_16 rfl ?_
  refine J_iushrN (k := 2) (pc := 17) dJ6_bitCount_0f7a4_17 (by omega) rfl ?_
  refine J_ldcw (v := nI 858993459) (pc := 18) dJ6_bitCount_0f7a4_18 q1_132 ?_
  refine J_iandN (pc := 21) dJ6_bitCount_0f7a4_21 ?_
  refine J_iaddN (pc := 22) dJ6_bitCount_0f7a4_22 ?_
  obtain ⟨b, eb⟩ : ∃ z : Nat, z = ((a) &&& (858993459)) + (((a) / 2 ^ 2) &&& (858993459)) := ⟨_, rfl⟩
  rw [← eb]
  have hb1 : a &&& 858993459 ≤ 858993459 := Nat.and_le_right
  have hb2 : (a / 2 ^ 2) &&& 858993459 ≤ 858993459 := Nat.and_le_right
  refine J_istore_n (i := 0) (lv' := [(0, .int (nI (b)))]) (pc := 23) dJ6_bitCount_0f7a4_23 rfl (by decide) rfl ?_
  refine J_iload_n (i := 0) (pc := 24) dJ6_bitCount_0f7a4_24 rfl rfl ?_
  refine J_iload_n (i := 0) (pc := 25) dJ6_bitCount_0f7a4_25 rfl rfl ?_
  refine J_iconst (v := nI (4)) (pc := 26) dJ6_bitCount_0f7a4_26 rfl ?_
  refine J_iushrN (k := 4) (pc := 27) dJ6_bitCount_0f7a4_27 (by omega) rfl ?_
  refine J_iaddN (pc := 28) dJ6_bitCount_0f7a4_28 ?_
  refine J_ldcw (v := nI 252645135) (pc := 29) dJ6_bitCount_0f7a4_29 q1_133 ?_
  refine J_iandN (pc := 32) dJ6_bitCount_0f7a4_32 ?_
  obtain ⟨c, ec⟩ : ∃ z : Nat, z = (b + ((b) / 2 ^ 4)) &&& (252645135) := ⟨_, rfl⟩
  rw [← ec]
  have hc1 : c ≤ 252645135 := by rw [ec]; exact Nat.and_le_right
  refine J_istore_n (i := 0) (lv' := [(0, .int (nI (c)))]) (pc := 33) dJ6_bitCount_0f7a4_33 rfl (by decide) rfl ?_
  refine J_iload_n (i := 0) (pc := 34) dJ6_bitCount_0f7a4_34 rfl rfl ?_
  refine J_iload_n (i := 0) (pc := 35) dJ6_bitCount_0f7a4_35 rfl rfl ?_
  refine J_bipush (v := nI (8)) (pc := 36) dJ6_bitCount_0f7a4_36 rfl ?_
  refine J_iushrN (k := 8) (pc := 38) dJ6_bitCount_0f7a4_38 (by omega) rfl ?_
  refine J_iaddN (pc := 39) dJ6_bitCount_0f7a4_39 ?_
  obtain ⟨e, ee⟩ : ∃ z : Nat, z = c + ((c) / 2 ^ 8) := ⟨_, rfl⟩
  rw [← ee]
  have he1 : e < 2 ^ 32 := by omega
  refine J_istore_n (i := 0) (lv' := [(0, .int (nI (e)))]) (pc := 40) dJ6_bitCount_0f7a4_40 rfl (by decide) rfl ?_
  refine J_iload_n (i := 0) (pc := 41) dJ6_bitCount_0f7a4_41 rfl rfl ?_
  refine J_iload_n (i := 0) (pc := 42) dJ6_bitCount_0f7a4_42 rfl rfl ?_
  refine J_bipush (v := nI (16)) (pc := 43) dJ6_bitCount_0f7a4_43 rfl ?_
  refine J_iushrN (k := 16) (pc := 45) dJ6_bitCount_0f7a4_45 (by omega) rfl ?_
  refine J_iaddN (pc := 46) dJ6_bitCount_0f7a4_46 ?_
  obtain ⟨f, ef⟩ : ∃ z : Nat, z = e + ((e) / 2 ^ 16) := ⟨_, rfl⟩
  rw [← ef]
  refine J_istore_n (i := 0) (lv' := [(0, .int (nI (f)))]) (pc := 47) dJ6_bitCount_0f7a4_47 rfl (by decide) rfl ?_
  refine J_iload_n (i := 0) (pc := 48) dJ6_bitCount_0f7a4_48 rfl rfl ?_
  refine J_bipush (v := nI (63)) (pc := 49) dJ6_bitCount_0f7a4_49 rfl ?_
  refine J_iandN (pc := 51) dJ6_bitCount_0f7a4_51 ?_
  refine J_iret (ty := .int) (pc := 52) dJ6_bitCount_0f7a4_52 rfl rfl ?_
  exact ⟨congrArg (fun z : Int32 => (Sum.inl (some (Value.int z)) : RT)) (by rw [ef, ee, ec, eb, ea]; rfl), rfl⟩
