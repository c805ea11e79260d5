-- the class Beans and the small static functions (printed by wip/whole/p20.py)
/-- beans: how many, which are checks, their measures, their sorts -/
abbrev BT : Type := Nat × Nat × (Nat → Nat → Nat) × (Nat → Nat)
def WF (β : BT) : Prop := β.1 ≤ 20 ∧ β.2.1 < 2 ^ β.1 ∧ (∀ m k, k < β.1 → β.2.2.1 m k ≤ 50) ∧ ∀ k, k < β.1 → β.2.2.2 k ≤ 2
def mkS (β : BT) (s : Nat) : Nat := msk (fun k => β.2.2.2 k == s) β.1
def mkL (β : BT) (m x : Nat) : Nat := msk (fun k => decide (β.2.2.1 m k ≤ x)) β.1
def gro (β : BT) : Nat := sdf (2 ^ β.1 - 1) β.2.1
/-- the small heap holds the object Beans (cell 2, its rows behind it) -/
def BH (h : MH) (β : BT) : Prop := WF β ∧ ∃ (mf : Nat → Nat → Int32) (sf tf lf : Nat → Int32),
  h.2 2 = some (oB 0 [.ref 3, .ref 7, .ref 8, .ref 9, .int (nI β.1), .int (nI β.2.1)]) ∧ h.2 3 = some (aG 3 (fun i => if i < 3 then some (4 + i) else none)) ∧
  (∀ m, m < 3 → h.2 (4 + m) = some (aI 20 (mf m))) ∧ h.2 7 = some (aI 20 sf) ∧ h.2 8 = some (aI 3 tf) ∧ h.2 9 = some (aI 153 lf) ∧
  (∀ m k, m < 3 → k < β.1 → mf m k = nI (β.2.2.1 m k)) ∧ (∀ k, k < β.1 → sf k = nI (β.2.2.2 k)) ∧ (∀ s, s < 3 → tf s = nI (mkS β s)) ∧ ∀ m x, m < 3 → x < 51 → lf (m * 51 + x) = nI (mkL β m x)
theorem mkS_lt {β : BT} (hW : WF β) (s : Nat) : mkS β s < 2 ^ 20 := Nat.lt_of_lt_of_le (msk_lt _ _) (Nat.pow_le_pow_right (by decide) hW.1)
theorem mkL_lt {β : BT} (hW : WF β) (m x : Nat) : mkL β m x < 2 ^ 20 := Nat.lt_of_lt_of_le (msk_lt _ _) (Nat.pow_le_pow_right (by decide) hW.1)
theorem pw_le {n : Nat} (h : n ≤ 20) : 1 ≤ 2 ^ n ∧ 2 ^ n ≤ 1048576 := ⟨Nat.one_le_two_pow, Nat.pow_le_pow_right (n := 2) (by decide) h⟩
theorem gro_lt {β : BT} (hW : WF β) : gro β < 2 ^ 20 := by
  have h1 := sdf_le (2 ^ β.1 - 1) β.2.1
  have h2 := pw_le hW.1
  unfold gro
  omega
theorem gro_bit (β : BT) (k : Nat) : (gro β).testBit k = (decide (k < β.1) && !β.2.1.testBit k) := by
  unfold gro
  rw [sdf_bit, Nat.testBit_two_pow_sub_one]

set_option maxHeartbeats 2000000 in
set_option maxRecDepth 20000 in
theorem c_bitCount {g : GT} {d : Nat} {h : MH} {s : Nat} (hs : s < 2 ^ 20) : J g d 0 0 mJ6_bitCount_0f7a4 0 (lv_args 0 [.int (nI s)]) [] h (RI (nI (cnt s)) h) := by
  rw [← pop_cnt hs]
  have ha : (s / 2 ^ 1) &&& 1431655765 ≤ s := Nat.le_trans Nat.and_le_left (by omega)
  refine J_iload_n (i := 0) (pc := 0) dJ6_bitCount_0f7a4_0 rfl rfl ?_
  refine J_iload_n (i := 0) (pc := 1) dJ6_bitCount_0f7a4_1 rfl rfl ?_
  refine J_iconst (v := nI (1)) (pc := 2) dJ6_bitCount_0f7a4_2 rfl ?_
  refine J_iushrN (k := 1) (pc := 3) dJ6_bitCount_0f7a4_3 (by omega) rfl ?_
  refine J_ldcw (v := nI 1431655765) (pc := 4) dJ6_bitCount_0f7a4_4 q1_188 ?_
  refine J_iandN (pc := 7) dJ6_bitCount_0f7a4_7 ?_
  refine J_isubN (pc := 8) dJ6_bitCount_0f7a4_8 (by omega) ?_
  obtain ⟨a, ea⟩ : ∃ z : Nat, z = (s) - (((s) / 2 ^ 1) &&& (1431655765)) := ⟨_, rfl⟩
  rw [← ea]
  have hb : a < 2 ^ 32 := by omega
  refine J_istore_n (i := 0) (lv' := [(0, .int (nI (a)))]) (pc := 9) dJ6_bitCount_0f7a4_9 rfl (by decide) rfl ?_
  refine J_iload_n (i := 0) (pc := 10) dJ6_bitCount_0f7a4_10 rfl rfl ?_
  refine J_ldcw (v := nI 858993459) (pc := 11) dJ6_bitCount_0f7a4_11 q1_189 ?_
  refine J_iandN (pc := 14) dJ6_bitCount_0f7a4_14 ?_
  refine J_iload_n (i := 0) (pc := 15) dJ6_bitCount_0f7a4_15 rfl rfl ?_
  refine J_iconst (v := nI (2)) (pc := 16) dJ6_bitCount_0f7a4_16 rfl ?_
  refine J_iushrN (k := 2) (pc := 17) dJ6_bitCount_0f7a4_17 (by omega) rfl ?_
  refine J_ldcw (v := nI 858993459) (pc := 18) dJ6_bitCount_0f7a4_18 q1_189 ?_
  refine J_iandN (pc := 21) dJ6_bitCount_0f7a4_21 ?_
  refine J_iaddN (pc := 22) dJ6_bitCount_0f7a4_22 ?_
  obtain ⟨b, eb⟩ : ∃ z : Nat, z = ((a) &&& (858993459)) + (((a) / 2 ^ 2) &&& (858993459)) := ⟨_, rfl⟩
  rw [← eb]
  have hb1 : a &&& 858993459 ≤ 858993459 := Nat.and_le_right
  have hb2 : (a / 2 ^ 2) &&& 858993459 ≤ 858993459 := Nat.and_le_right
  refine J_istore_n (i := 0) (lv' := [(0, .int (nI (b)))]) (pc := 23) dJ6_bitCount_0f7a4_23 rfl (by decide) rfl ?_
  refine J_iload_n (i := 0) (pc := 24) dJ6_bitCount_0f7a4_24 rfl rfl ?_
  refine J_iload_n (i := 0) (pc := 25) dJ6_bitCount_0f7a4_25 rfl rfl ?_
  refine J_iconst (v := nI (4)) (pc := 26) dJ6_bitCount_0f7a4_26 rfl ?_
  refine J_iushrN (k := 4) (pc := 27) dJ6_bitCount_0f7a4_27 (by omega) rfl ?_
  refine J_iaddN (pc := 28) dJ6_bitCount_0f7a4_28 ?_
  refine J_ldcw (v := nI 252645135) (pc := 29) dJ6_bitCount_0f7a4_29 q1_190 ?_
  refine J_iandN (pc := 32) dJ6_bitCount_0f7a4_32 ?_
  obtain ⟨c, ec⟩ : ∃ z : Nat, z = (b + ((b) / 2 ^ 4)) &&& (252645135) := ⟨_, rfl⟩
  rw [← ec]
  have hc1 : c ≤ 252645135 := by rw [ec]; exact Nat.and_le_right
  refine J_istore_n (i := 0) (lv' := [(0, .int (nI (c)))]) (pc := 33) dJ6_bitCount_0f7a4_33 rfl (by decide) rfl ?_
  refine J_iload_n (i := 0) (pc := 34) dJ6_bitCount_0f7a4_34 rfl rfl ?_
  refine J_iload_n (i := 0) (pc := 35) dJ6_bitCount_0f7a4_35 rfl rfl ?_
  refine J_bipush (v := nI (8)) (pc := 36) dJ6_bitCount_0f7a4_36 rfl ?_
  refine J_iushrN (k := 8) (pc := 38) dJ6_bitCount_0f7a4_38 (by omega) rfl ?_
  refine J_iaddN (pc := 39) dJ6_bitCount_0f7a4_39 ?_
  obtain ⟨e, ee⟩ : ∃ z : Nat, z = c + ((c) / 2 ^ 8) := ⟨_, rfl⟩
  rw [← ee]
  have he1 : e < 2 ^ 32 := by omega
  refine J_istore_n (i := 0) (lv' := [(0, .int (nI (e)))]) (pc := 40) dJ6_bitCount_0f7a4_40 rfl (by decide) rfl ?_
  refine J_iload_n (i := 0) (pc := 41) dJ6_bitCount_0f7a4_41 rfl rfl ?_
  refine J_iload_n (i := 0) (pc := 42) dJ6_bitCount_0f7a4_42 rfl rfl ?_
  refine J_bipush (v := nI (16)) (pc := 43) dJ6_bitCount_0f7a4_43 rfl ?_
  refine J_iushrN (k := 16) (pc := 45) dJ6_bitCount_0f7a4_45 (by omega) rfl ?_
  refine J_iaddN (pc := 46) dJ6_bitCount_0f7a4_46 ?_
  obtain ⟨f, ef⟩ : ∃ z : Nat, z = e + ((e) / 2 ^ 16) := ⟨_, rfl⟩
  rw [← ef]
  refine J_istore_n (i := 0) (lv' := [(0, .int (nI (f)))]) (pc := 47) dJ6_bitCount_0f7a4_47 rfl (by decide) rfl ?_
  refine J_iload_n (i := 0) (pc := 48) dJ6_bitCount_0f7a4_48 rfl rfl ?_
  refine J_bipush (v := nI (63)) (pc := 49) dJ6_bitCount_0f7a4_49 rfl ?_
  refine J_iandN (pc := 51) dJ6_bitCount_0f7a4_51 ?_
  refine J_iret (ty := .int) (pc := 52) dJ6_bitCount_0f7a4_52 rfl rfl ?_
  exact ⟨congrArg (fun z : Int32 => (Sum.inl (some (Value.int z)) : RT)) (by rw [ef, ee, ec, eb, ea]; rfl), rfl⟩

theorem and_pow_0 {s k : Nat} : s &&& 2 ^ k = 0 ↔ s.testBit k = false := by
  constructor
  · intro h
    have h1 : (s &&& 2 ^ k).testBit k = false := by rw [h, Nat.zero_testBit]
    rw [Nat.testBit_and, Nat.testBit_two_pow_self, Bool.and_true] at h1
    exact h1
  · intro h
    apply Nat.eq_of_testBit_eq
    intro i
    rw [Nat.testBit_and, Nat.zero_testBit, Nat.testBit_two_pow]
    by_cases e : k = i
    · subst e
      rw [h]
      rfl
    · simp [e]
/-- between two ints -/
def okR (lo hi x : Int32) : Bool := decide (lo ≤ x) && decide (x ≤ hi)
theorem i32_not_le {a x : Int32} : ¬ a ≤ x ↔ x < a := by
  rw [Int32.le_iff_toInt_le, Int32.lt_iff_toInt_lt]
  omega
theorem i32_not_lt {a x : Int32} : ¬ x < a ↔ a ≤ x := by
  rw [Int32.le_iff_toInt_le, Int32.lt_iff_toInt_lt]
  omega
theorem i32_lt_succ {x : Int32} (n m : Nat) (hn : n < 1000) (hm : m = n + 1) : x < nI m ↔ x ≤ nI n := by
  subst hm
  rw [Int32.le_iff_toInt_le, Int32.lt_iff_toInt_lt, nI_toInt (by omega), nI_toInt (by omega)]
  omega
/-- what passes is a number -/
theorem okR_of {lo hi : Nat} (hh : hi < 1000) {x : Int32} (h : okR (nI lo) (nI hi) x = true) (hl : lo < 1000) : ∃ j, x = nI j ∧ lo ≤ j ∧ j ≤ hi := by
  unfold okR at h
  rw [Bool.and_eq_true, decide_eq_true_eq, decide_eq_true_eq, Int32.le_iff_toInt_le, Int32.le_iff_toInt_le, nI_toInt (by omega), nI_toInt (by omega)] at h
  have h0 : ¬ x < 0 := by
    rw [Int32.lt_iff_toInt_lt]
    have : (0 : Int32).toInt = 0 := by decide
    omega
  obtain ⟨j, hj, rfl⟩ := nI_of h0
  rw [nI_toInt hj] at h
  exact ⟨j, rfl, by omega, by omega⟩
theorem okR_nI {lo hi j : Nat} (hh : hi < 1000) (hl : lo < 1000) (hj : j < 2 ^ 31) : okR (nI lo) (nI hi) (nI j) = (decide (lo ≤ j) && decide (j ≤ hi)) := by
  unfold okR
  simp only [nI_leI (show lo < 2 ^ 31 by omega) hj, nI_leI hj (show hi < 2 ^ 31 by omega)]
theorem okR_iff {lo hi : Nat} (hh : hi < 1000) (hl : lo < 1000) {x : Int32} : okR (nI lo) (nI hi) x = true ↔ (lo : Int) ≤ x.toInt ∧ x.toInt ≤ (hi : Int) := by
  unfold okR
  rw [Bool.and_eq_true, decide_eq_true_eq, decide_eq_true_eq, Int32.le_iff_toInt_le, Int32.le_iff_toInt_le, nI_toInt (by omega), nI_toInt (by omega)]
theorem okR_t {lo hi : Nat} (hh : hi < 1000) (hl : lo < 1000) {x : Int32} (h1 : (lo : Int) ≤ x.toInt) (h2 : x.toInt ≤ (hi : Int)) : okR (nI lo) (nI hi) x = true := (okR_iff hh hl).mpr ⟨h1, h2⟩
theorem okR_f {lo hi : Nat} (hh : hi < 1000) (hl : lo < 1000) {x : Int32} (h : ¬ ((lo : Int) ≤ x.toInt ∧ x.toInt ≤ (hi : Int))) : okR (nI lo) (nI hi) x = false := by
  cases hb : okR (nI lo) (nI hi) x with
  | false => rfl
  | true => exact absurd ((okR_iff hh hl).mp hb) h
theorem z32 : (0 : Int32).toInt = 0 := by decide
theorem m32 : (-1 : Int32).toInt = -1 := by decide

set_option maxHeartbeats 2000000 in
set_option maxRecDepth 20000 in
theorem c_isIn {g : GT} {d : Nat} {h : MH} {s k : Nat} (hs : s < 2 ^ 20) (hk : k < 20) : J g (d) 0 0 mX2_isIn 0 (lv_args 0 [.int (nI (s)), .int (nI (k))]) [] h (RI (bI (s.testBit k)) h) := by
  have h9 : s &&& 2 ^ k ≤ s := Nat.and_le_left
  refine J_iload_n (i := 0) (pc := 0) dX2_isIn_0 rfl rfl ?_
  refine J_iconst (v := nI (1)) (pc := 1) dX2_isIn_1 rfl ?_
  refine J_iload_n (i := 1) (pc := 2) dX2_isIn_2 rfl rfl ?_
  refine J_ishlN (pc := 3) dX2_isIn_3 (by omega) ?_
  refine J_iandN (pc := 4) dX2_isIn_4 ?_
  refine J_if_eqN (tgt := 12) (pc := 5) dX2_isIn_5 (by decide) (by omega) (fun c5 => ?_) (fun c5 => ?_)
  · skip
    refine J_iconst (v := nI (0)) (pc := 12) dX2_isIn_12 rfl ?_
    refine J_iret (ty := .boolean) (pc := 13) dX2_isIn_13 rfl rfl ?_
    exact ⟨congrArg (fun z : Int32 => (Sum.inl (some (Value.int z)) : RT)) (by first | (rw [show s.testBit k = false from and_pow_0.mp (by assumption)]; rfl) | (rw [show s.testBit k = true from by (cases hb : s.testBit k <;> first | rfl | exact absurd (and_pow_0.mpr hb) (by assumption))]; rfl)), rfl⟩
  · skip
    refine J_iconst (v := nI (1)) (pc := 8) dX2_isIn_8 rfl ?_
    refine J_goto (tgt := 13) (pc := 9) dX2_isIn_9 (by decide) ?_
    refine J_iret (ty := .boolean) (pc := 13) dX2_isIn_13 rfl rfl ?_
    exact ⟨congrArg (fun z : Int32 => (Sum.inl (some (Value.int z)) : RT)) (by first | (rw [show s.testBit k = false from and_pow_0.mp (by assumption)]; rfl) | (rw [show s.testBit k = true from by (cases hb : s.testBit k <;> first | rfl | exact absurd (and_pow_0.mpr hb) (by assumption))]; rfl)), rfl⟩

set_option maxHeartbeats 2000000 in
set_option maxRecDepth 20000 in
theorem c_isMeasure {g : GT} {d : Nat} {h : MH} {x : Int32} : J g (d) 0 0 mX2_isMeasure 0 (lv_args 0 [.int (x)]) [] h (RI (bI (okR (nI 0) (nI 50) x)) h) := by
  refine J_iload_n (i := 0) (pc := 0) dX2_isMeasure_0 rfl rfl ?_
  refine J_if_lt (tgt := 14) (pc := 1) dX2_isMeasure_1 (by decide) (fun c1 => ?_) (fun c1 => ?_)
  · skip
    refine J_iconst (v := nI (0)) (pc := 14) dX2_isMeasure_14 rfl ?_
    refine J_iret (ty := .boolean) (pc := 15) dX2_isMeasure_15 rfl rfl ?_
    exact ⟨congrArg (fun z : Int32 => (Sum.inl (some (Value.int z)) : RT)) (by first | (rw [okR_t (lo := 0) (hi := 50) (by decide) (by decide) (by simp only [Int32.lt_iff_toInt_lt, Int32.le_iff_toInt_le, z32, m32, nI_toInt (n := 50) (by decide)] at *; omega) (by simp only [Int32.lt_iff_toInt_lt, Int32.le_iff_toInt_le, z32, m32, nI_toInt (n := 50) (by decide)] at *; omega)]; rfl) | (rw [okR_f (lo := 0) (hi := 50) (by decide) (by decide) (by simp only [Int32.lt_iff_toInt_lt, Int32.le_iff_toInt_le, z32, m32, nI_toInt (n := 50) (by decide)] at *; omega)]; rfl)), rfl⟩
  · skip
    refine J_iload_n (i := 0) (pc := 4) dX2_isMeasure_4 rfl rfl ?_
    refine J_bipush (v := nI (50)) (pc := 5) dX2_isMeasure_5 rfl ?_
    refine J_icmp_gt (tgt := 14) (pc := 7) dX2_isMeasure_7 (by decide) (fun c7 => ?_) (fun c7 => ?_)
    · skip
      refine J_iconst (v := nI (0)) (pc := 14) dX2_isMeasure_14 rfl ?_
      refine J_iret (ty := .boolean) (pc := 15) dX2_isMeasure_15 rfl rfl ?_
      exact ⟨congrArg (fun z : Int32 => (Sum.inl (some (Value.int z)) : RT)) (by first | (rw [okR_t (lo := 0) (hi := 50) (by decide) (by decide) (by simp only [Int32.lt_iff_toInt_lt, Int32.le_iff_toInt_le, z32, m32, nI_toInt (n := 50) (by decide)] at *; omega) (by simp only [Int32.lt_iff_toInt_lt, Int32.le_iff_toInt_le, z32, m32, nI_toInt (n := 50) (by decide)] at *; omega)]; rfl) | (rw [okR_f (lo := 0) (hi := 50) (by decide) (by decide) (by simp only [Int32.lt_iff_toInt_lt, Int32.le_iff_toInt_le, z32, m32, nI_toInt (n := 50) (by decide)] at *; omega)]; rfl)), rfl⟩
    · skip
      refine J_iconst (v := nI (1)) (pc := 10) dX2_isMeasure_10 rfl ?_
      refine J_goto (tgt := 15) (pc := 11) dX2_isMeasure_11 (by decide) ?_
      refine J_iret (ty := .boolean) (pc := 15) dX2_isMeasure_15 rfl rfl ?_
      exact ⟨congrArg (fun z : Int32 => (Sum.inl (some (Value.int z)) : RT)) (by first | (rw [okR_t (lo := 0) (hi := 50) (by decide) (by decide) (by simp only [Int32.lt_iff_toInt_lt, Int32.le_iff_toInt_le, z32, m32, nI_toInt (n := 50) (by decide)] at *; omega) (by simp only [Int32.lt_iff_toInt_lt, Int32.le_iff_toInt_le, z32, m32, nI_toInt (n := 50) (by decide)] at *; omega)]; rfl) | (rw [okR_f (lo := 0) (hi := 50) (by decide) (by decide) (by simp only [Int32.lt_iff_toInt_lt, Int32.le_iff_toInt_le, z32, m32, nI_toInt (n := 50) (by decide)] at *; omega)]; rfl)), rfl⟩

set_option maxHeartbeats 2000000 in
set_option maxRecDepth 20000 in
theorem c_isSort {g : GT} {d : Nat} {h : MH} {x : Int32} : J g (d) 0 0 mX2_isSort 0 (lv_args 0 [.int (x)]) [] h (RI (bI (okR (nI 0) (nI 2) x)) h) := by
  refine J_iload_n (i := 0) (pc := 0) dX2_isSort_0 rfl rfl ?_
  refine J_if_lt (tgt := 13) (pc := 1) dX2_isSort_1 (by decide) (fun c1 => ?_) (fun c1 => ?_)
  · skip
    refine J_iconst (v := nI (0)) (pc := 13) dX2_isSort_13 rfl ?_
    refine J_iret (ty := .boolean) (pc := 14) dX2_isSort_14 rfl rfl ?_
    exact ⟨congrArg (fun z : Int32 => (Sum.inl (some (Value.int z)) : RT)) (by first | (rw [okR_t (lo := 0) (hi := 2) (by decide) (by decide) (by simp only [Int32.lt_iff_toInt_lt, Int32.le_iff_toInt_le, z32, m32, nI_toInt (n := 3) (by decide)] at *; omega) (by simp only [Int32.lt_iff_toInt_lt, Int32.le_iff_toInt_le, z32, m32, nI_toInt (n := 3) (by decide)] at *; omega)]; rfl) | (rw [okR_f (lo := 0) (hi := 2) (by decide) (by decide) (by simp only [Int32.lt_iff_toInt_lt, Int32.le_iff_toInt_le, z32, m32, nI_toInt (n := 3) (by decide)] at *; omega)]; rfl)), rfl⟩
  · skip
    refine J_iload_n (i := 0) (pc := 4) dX2_isSort_4 rfl rfl ?_
    refine J_iconst (v := nI (3)) (pc := 5) dX2_isSort_5 rfl ?_
    refine J_icmp_ge (tgt := 13) (pc := 6) dX2_isSort_6 (by decide) (fun c6 => ?_) (fun c6 => ?_)
    · skip
      refine J_iconst (v := nI (0)) (pc := 13) dX2_isSort_13 rfl ?_
      refine J_iret (ty := .boolean) (pc := 14) dX2_isSort_14 rfl rfl ?_
      exact ⟨congrArg (fun z : Int32 => (Sum.inl (some (Value.int z)) : RT)) (by first | (rw [okR_t (lo := 0) (hi := 2) (by decide) (by decide) (by simp only [Int32.lt_iff_toInt_lt, Int32.le_iff_toInt_le, z32, m32, nI_toInt (n := 3) (by decide)] at *; omega) (by simp only [Int32.lt_iff_toInt_lt, Int32.le_iff_toInt_le, z32, m32, nI_toInt (n := 3) (by decide)] at *; omega)]; rfl) | (rw [okR_f (lo := 0) (hi := 2) (by decide) (by decide) (by simp only [Int32.lt_iff_toInt_lt, Int32.le_iff_toInt_le, z32, m32, nI_toInt (n := 3) (by decide)] at *; omega)]; rfl)), rfl⟩
    · skip
      refine J_iconst (v := nI (1)) (pc := 9) dX2_isSort_9 rfl ?_
      refine J_goto (tgt := 14) (pc := 10) dX2_isSort_10 (by decide) ?_
      refine J_iret (ty := .boolean) (pc := 14) dX2_isSort_14 rfl rfl ?_
      exact ⟨congrArg (fun z : Int32 => (Sum.inl (some (Value.int z)) : RT)) (by first | (rw [okR_t (lo := 0) (hi := 2) (by decide) (by decide) (by simp only [Int32.lt_iff_toInt_lt, Int32.le_iff_toInt_le, z32, m32, nI_toInt (n := 3) (by decide)] at *; omega) (by simp only [Int32.lt_iff_toInt_lt, Int32.le_iff_toInt_le, z32, m32, nI_toInt (n := 3) (by decide)] at *; omega)]; rfl) | (rw [okR_f (lo := 0) (hi := 2) (by decide) (by decide) (by simp only [Int32.lt_iff_toInt_lt, Int32.le_iff_toInt_le, z32, m32, nI_toInt (n := 3) (by decide)] at *; omega)]; rfl)), rfl⟩

set_option maxHeartbeats 2000000 in
set_option maxRecDepth 20000 in
theorem c_isDepth {g : GT} {d : Nat} {h : MH} {x : Int32} : J g (d) 0 0 mX2_isDepth 0 (lv_args 0 [.int (x)]) [] h (RI (bI (okR (nI 1) (nI 5) x)) h) := by
  refine J_iload_n (i := 0) (pc := 0) dX2_isDepth_0 rfl rfl ?_
  refine J_iconst (v := nI (1)) (pc := 1) dX2_isDepth_1 rfl ?_
  refine J_icmp_lt (tgt := 14) (pc := 2) dX2_isDepth_2 (by decide) (fun c2 => ?_) (fun c2 => ?_)
  · skip
    refine J_iconst (v := nI (0)) (pc := 14) dX2_isDepth_14 rfl ?_
    refine J_iret (ty := .boolean) (pc := 15) dX2_isDepth_15 rfl rfl ?_
    exact ⟨congrArg (fun z : Int32 => (Sum.inl (some (Value.int z)) : RT)) (by first | (rw [okR_t (lo := 1) (hi := 5) (by decide) (by decide) (by simp only [Int32.lt_iff_toInt_lt, Int32.le_iff_toInt_le, z32, m32, nI_toInt (n := 1) (by decide), nI_toInt (n := 5) (by decide)] at *; omega) (by simp only [Int32.lt_iff_toInt_lt, Int32.le_iff_toInt_le, z32, m32, nI_toInt (n := 1) (by decide), nI_toInt (n := 5) (by decide)] at *; omega)]; rfl) | (rw [okR_f (lo := 1) (hi := 5) (by decide) (by decide) (by simp only [Int32.lt_iff_toInt_lt, Int32.le_iff_toInt_le, z32, m32, nI_toInt (n := 1) (by decide), nI_toInt (n := 5) (by decide)] at *; omega)]; rfl)), rfl⟩
  · skip
    refine J_iload_n (i := 0) (pc := 5) dX2_isDepth_5 rfl rfl ?_
    refine J_iconst (v := nI (5)) (pc := 6) dX2_isDepth_6 rfl ?_
    refine J_icmp_gt (tgt := 14) (pc := 7) dX2_isDepth_7 (by decide) (fun c7 => ?_) (fun c7 => ?_)
    · skip
      refine J_iconst (v := nI (0)) (pc := 14) dX2_isDepth_14 rfl ?_
      refine J_iret (ty := .boolean) (pc := 15) dX2_isDepth_15 rfl rfl ?_
      exact ⟨congrArg (fun z : Int32 => (Sum.inl (some (Value.int z)) : RT)) (by first | (rw [okR_t (lo := 1) (hi := 5) (by decide) (by decide) (by simp only [Int32.lt_iff_toInt_lt, Int32.le_iff_toInt_le, z32, m32, nI_toInt (n := 1) (by decide), nI_toInt (n := 5) (by decide)] at *; omega) (by simp only [Int32.lt_iff_toInt_lt, Int32.le_iff_toInt_le, z32, m32, nI_toInt (n := 1) (by decide), nI_toInt (n := 5) (by decide)] at *; omega)]; rfl) | (rw [okR_f (lo := 1) (hi := 5) (by decide) (by decide) (by simp only [Int32.lt_iff_toInt_lt, Int32.le_iff_toInt_le, z32, m32, nI_toInt (n := 1) (by decide), nI_toInt (n := 5) (by decide)] at *; omega)]; rfl)), rfl⟩
    · skip
      refine J_iconst (v := nI (1)) (pc := 10) dX2_isDepth_10 rfl ?_
      refine J_goto (tgt := 15) (pc := 11) dX2_isDepth_11 (by decide) ?_
      refine J_iret (ty := .boolean) (pc := 15) dX2_isDepth_15 rfl rfl ?_
      exact ⟨congrArg (fun z : Int32 => (Sum.inl (some (Value.int z)) : RT)) (by first | (rw [okR_t (lo := 1) (hi := 5) (by decide) (by decide) (by simp only [Int32.lt_iff_toInt_lt, Int32.le_iff_toInt_le, z32, m32, nI_toInt (n := 1) (by decide), nI_toInt (n := 5) (by decide)] at *; omega) (by simp only [Int32.lt_iff_toInt_lt, Int32.le_iff_toInt_le, z32, m32, nI_toInt (n := 1) (by decide), nI_toInt (n := 5) (by decide)] at *; omega)]; rfl) | (rw [okR_f (lo := 1) (hi := 5) (by decide) (by decide) (by simp only [Int32.lt_iff_toInt_lt, Int32.le_iff_toInt_le, z32, m32, nI_toInt (n := 1) (by decide), nI_toInt (n := 5) (by decide)] at *; omega)]; rfl)), rfl⟩

set_option maxHeartbeats 2000000 in
set_option maxRecDepth 20000 in
theorem c_isLeast {g : GT} {d : Nat} {h : MH} {x : Int32} : J g (d) 0 0 mX2_isLeast 0 (lv_args 0 [.int (x)]) [] h (RI (bI (okR (nI 1) (nI 6) x)) h) := by
  refine J_iload_n (i := 0) (pc := 0) dX2_isLeast_0 rfl rfl ?_
  refine J_iconst (v := nI (1)) (pc := 1) dX2_isLeast_1 rfl ?_
  refine J_icmp_lt (tgt := 15) (pc := 2) dX2_isLeast_2 (by decide) (fun c2 => ?_) (fun c2 => ?_)
  · skip
    refine J_iconst (v := nI (0)) (pc := 15) dX2_isLeast_15 rfl ?_
    refine J_iret (ty := .boolean) (pc := 16) dX2_isLeast_16 rfl rfl ?_
    exact ⟨congrArg (fun z : Int32 => (Sum.inl (some (Value.int z)) : RT)) (by first | (rw [okR_t (lo := 1) (hi := 6) (by decide) (by decide) (by simp only [Int32.lt_iff_toInt_lt, Int32.le_iff_toInt_le, z32, m32, nI_toInt (n := 1) (by decide), nI_toInt (n := 6) (by decide)] at *; omega) (by simp only [Int32.lt_iff_toInt_lt, Int32.le_iff_toInt_le, z32, m32, nI_toInt (n := 1) (by decide), nI_toInt (n := 6) (by decide)] at *; omega)]; rfl) | (rw [okR_f (lo := 1) (hi := 6) (by decide) (by decide) (by simp only [Int32.lt_iff_toInt_lt, Int32.le_iff_toInt_le, z32, m32, nI_toInt (n := 1) (by decide), nI_toInt (n := 6) (by decide)] at *; omega)]; rfl)), rfl⟩
  · skip
    refine J_iload_n (i := 0) (pc := 5) dX2_isLeast_5 rfl rfl ?_
    refine J_bipush (v := nI (6)) (pc := 6) dX2_isLeast_6 rfl ?_
    refine J_icmp_gt (tgt := 15) (pc := 8) dX2_isLeast_8 (by decide) (fun c8 => ?_) (fun c8 => ?_)
    · skip
      refine J_iconst (v := nI (0)) (pc := 15) dX2_isLeast_15 rfl ?_
      refine J_iret (ty := .boolean) (pc := 16) dX2_isLeast_16 rfl rfl ?_
      exact ⟨congrArg (fun z : Int32 => (Sum.inl (some (Value.int z)) : RT)) (by first | (rw [okR_t (lo := 1) (hi := 6) (by decide) (by decide) (by simp only [Int32.lt_iff_toInt_lt, Int32.le_iff_toInt_le, z32, m32, nI_toInt (n := 1) (by decide), nI_toInt (n := 6) (by decide)] at *; omega) (by simp only [Int32.lt_iff_toInt_lt, Int32.le_iff_toInt_le, z32, m32, nI_toInt (n := 1) (by decide), nI_toInt (n := 6) (by decide)] at *; omega)]; rfl) | (rw [okR_f (lo := 1) (hi := 6) (by decide) (by decide) (by simp only [Int32.lt_iff_toInt_lt, Int32.le_iff_toInt_le, z32, m32, nI_toInt (n := 1) (by decide), nI_toInt (n := 6) (by decide)] at *; omega)]; rfl)), rfl⟩
    · skip
      refine J_iconst (v := nI (1)) (pc := 11) dX2_isLeast_11 rfl ?_
      refine J_goto (tgt := 16) (pc := 12) dX2_isLeast_12 (by decide) ?_
      refine J_iret (ty := .boolean) (pc := 16) dX2_isLeast_16 rfl rfl ?_
      exact ⟨congrArg (fun z : Int32 => (Sum.inl (some (Value.int z)) : RT)) (by first | (rw [okR_t (lo := 1) (hi := 6) (by decide) (by decide) (by simp only [Int32.lt_iff_toInt_lt, Int32.le_iff_toInt_le, z32, m32, nI_toInt (n := 1) (by decide), nI_toInt (n := 6) (by decide)] at *; omega) (by simp only [Int32.lt_iff_toInt_lt, Int32.le_iff_toInt_le, z32, m32, nI_toInt (n := 1) (by decide), nI_toInt (n := 6) (by decide)] at *; omega)]; rfl) | (rw [okR_f (lo := 1) (hi := 6) (by decide) (by decide) (by simp only [Int32.lt_iff_toInt_lt, Int32.le_iff_toInt_le, z32, m32, nI_toInt (n := 1) (by decide), nI_toInt (n := 6) (by decide)] at *; omega)]; rfl)), rfl⟩

set_option maxHeartbeats 2000000 in
set_option maxRecDepth 20000 in
theorem c_areMeasures {g : GT} {d : Nat} {h : MH} {a b c : Int32} : J g (d + 1) 0 0 mX2_areMeasures 0 (lv_args 0 [.int (a), .int (b), .int (c)]) [] h (RI (bI (okR (nI 0) (nI 50) a && okR (nI 0) (nI 50) b && okR (nI 0) (nI 50) c)) h) := by
  refine J_iload_n (i := 0) (pc := 0) dX2_areMeasures_0 rfl rfl ?_
  refine J_cSi (st := []) (As := [.int (a)]) (pc := 1) dX2_areMeasures_1 okX2_isMeasure q2_132 q2_133 rfl (Nat.le_of_ble_eq_true rfl) (Nat.le_of_ble_eq_true rfl) (c_isMeasure) ?_
  refine J_if_eqB (tgt := 25) (pc := 4) dX2_areMeasures_4 (by decide) (fun c4 => ?_) (fun c4 => ?_)
  · skip
    refine J_iconst (v := nI (0)) (pc := 25) dX2_areMeasures_25 rfl ?_
    refine J_iret (ty := .boolean) (pc := 26) dX2_areMeasures_26 rfl rfl ?_
    exact ⟨congrArg (fun z : Int32 => (Sum.inl (some (Value.int z)) : RT)) (by simp_all [bI]; try rfl), rfl⟩
  · skip
    refine J_iload_n (i := 1) (pc := 7) dX2_areMeasures_7 rfl rfl ?_
    refine J_cSi (st := []) (As := [.int (b)]) (pc := 8) dX2_areMeasures_8 okX2_isMeasure q2_132 q2_133 rfl (Nat.le_of_ble_eq_true rfl) (Nat.le_of_ble_eq_true rfl) (c_isMeasure) ?_
    refine J_if_eqB (tgt := 25) (pc := 11) dX2_areMeasures_11 (by decide) (fun c11 => ?_) (fun c11 => ?_)
    · skip
      refine J_iconst (v := nI (0)) (pc := 25) dX2_areMeasures_25 rfl ?_
      refine J_iret (ty := .boolean) (pc := 26) dX2_areMeasures_26 rfl rfl ?_
      exact ⟨congrArg (fun z : Int32 => (Sum.inl (some (Value.int z)) : RT)) (by simp_all [bI]; try rfl), rfl⟩
    · skip
      refine J_iload_n (i := 2) (pc := 14) dX2_areMeasures_14 rfl rfl ?_
      refine J_cSi (st := []) (As := [.int (c)]) (pc := 15) dX2_areMeasures_15 okX2_isMeasure q2_132 q2_133 rfl (Nat.le_of_ble_eq_true rfl) (Nat.le_of_ble_eq_true rfl) (c_isMeasure) ?_
      refine J_if_eqB (tgt := 25) (pc := 18) dX2_areMeasures_18 (by decide) (fun c18 => ?_) (fun c18 => ?_)
      · skip
        refine J_iconst (v := nI (0)) (pc := 25) dX2_areMeasures_25 rfl ?_
        refine J_iret (ty := .boolean) (pc := 26) dX2_areMeasures_26 rfl rfl ?_
        exact ⟨congrArg (fun z : Int32 => (Sum.inl (some (Value.int z)) : RT)) (by simp_all [bI]; try rfl), rfl⟩
      · skip
        refine J_iconst (v := nI (1)) (pc := 21) dX2_areMeasures_21 rfl ?_
        refine J_goto (tgt := 26) (pc := 22) dX2_areMeasures_22 (by decide) ?_
        refine J_iret (ty := .boolean) (pc := 26) dX2_areMeasures_26 rfl rfl ?_
        exact ⟨congrArg (fun z : Int32 => (Sum.inl (some (Value.int z)) : RT)) (by simp_all [bI]; try rfl), rfl⟩

set_option maxHeartbeats 2000000 in
set_option maxRecDepth 20000 in
theorem c_measureOfCut {g : GT} {d : Nat} {h : MH} {c : Option Nat} (hc : ∀ n, c = some n → n < 2 ^ 31) : J g (d) 0 0 mX2_measureOfCut 0 (lv_args 0 [.int (enc (c))]) [] h (RI (enc (c.map (fun n => n / 51))) h) := by
  refine J_iload_n (i := 0) (pc := 0) dX2_measureOfCut_0 rfl rfl ?_
  refine J_if_geE (tgt := 8) (pc := 1) dX2_measureOfCut_1 (by decide) (by assumption) (fun k_1 c1 => ?_) (fun c1 => ?_)
  · skip
    try rw [c1]
    have hk := hc _ c1
    refine J_iload_n (i := 0) (pc := 8) dX2_measureOfCut_8 rfl rfl ?_
    refine J_bipush (v := nI (51)) (pc := 9) dX2_measureOfCut_9 rfl ?_
    refine J_idivN (pc := 11) dX2_measureOfCut_11 (by omega) (by omega) (by omega) ?_
    refine J_iret (ty := .int) (pc := 12) dX2_measureOfCut_12 rfl rfl ?_
    exact ⟨rfl, rfl⟩
  · skip
    try rw [c1]
    refine J_iconst (v := (-1)) (pc := 4) dX2_measureOfCut_4 rfl ?_
    refine J_goto (tgt := 12) (pc := 5) dX2_measureOfCut_5 (by decide) ?_
    refine J_iret (ty := .int) (pc := 12) dX2_measureOfCut_12 rfl rfl ?_
    exact ⟨rfl, rfl⟩

set_option maxHeartbeats 2000000 in
set_option maxRecDepth 20000 in
theorem c_numberOfCut {g : GT} {d : Nat} {h : MH} {c : Option Nat} (hc : ∀ n, c = some n → n < 2 ^ 31) : J g (d) 0 0 mX2_numberOfCut 0 (lv_args 0 [.int (enc (c))]) [] h (RI (enc (c.map (fun n => n % 51))) h) := by
  refine J_iload_n (i := 0) (pc := 0) dX2_numberOfCut_0 rfl rfl ?_
  refine J_if_geE (tgt := 8) (pc := 1) dX2_numberOfCut_1 (by decide) (by assumption) (fun k_1 c1 => ?_) (fun c1 => ?_)
  · skip
    try rw [c1]
    have hk := hc _ c1
    refine J_iload_n (i := 0) (pc := 8) dX2_numberOfCut_8 rfl rfl ?_
    refine J_bipush (v := nI (51)) (pc := 9) dX2_numberOfCut_9 rfl ?_
    refine J_iremN (pc := 11) dX2_numberOfCut_11 (by omega) (by omega) (by omega) ?_
    refine J_iret (ty := .int) (pc := 12) dX2_numberOfCut_12 rfl rfl ?_
    exact ⟨rfl, rfl⟩
  · skip
    try rw [c1]
    refine J_iconst (v := (-1)) (pc := 4) dX2_numberOfCut_4 rfl ?_
    refine J_goto (tgt := 12) (pc := 5) dX2_numberOfCut_5 (by decide) ?_
    refine J_iret (ty := .int) (pc := 12) dX2_numberOfCut_12 rfl rfl ?_
    exact ⟨rfl, rfl⟩

def ofS (β : BT) (s k : Nat) : Nat := cnt (s &&& mkS β k)
def sqs (β : BT) (s : Nat) : Nat := ofS β s 0 * ofS β s 0 + ofS β s 1 * ofS β s 1 + ofS β s 2 * ofS β s 2
def mostA (β : BT) (s : Nat) : Nat := if ofS β s 0 < ofS β s 1 then 1 else 0
def mostS (β : BT) (s : Nat) : Nat := if ofS β s (mostA β s) < ofS β s 2 then 2 else mostA β s
def gA (β : BT) (s low : Nat) : Nat := sqs β low * cnt (sdf s low) * cnt s + sqs β (sdf s low) * cnt low * cnt s - sqs β s * cnt low * cnt (sdf s low)
def gB (s low : Nat) : Nat := cnt s * cnt low * cnt (sdf s low)
theorem ofS_le (β : BT) (s k : Nat) : ofS β s k ≤ 20 := cnt_le _
theorem sqs_le (β : BT) (s : Nat) : sqs β s ≤ 1200 := by
  have h0 := Nat.mul_le_mul (ofS_le β s 0) (ofS_le β s 0)
  have h1 := Nat.mul_le_mul (ofS_le β s 1) (ofS_le β s 1)
  have h2 := Nat.mul_le_mul (ofS_le β s 2) (ofS_le β s 2)
  unfold sqs
  omega
theorem ofS_split (β : BT) (s z k : Nat) : ofS β s k = ofS β (s &&& z) k + ofS β (sdf s (s &&& z)) k := by
  unfold ofS
  symm
  apply pcn_add
  intro i _
  rw [Nat.testBit_and, Nat.testBit_and, Nat.testBit_and, sdf_bit, Nat.testBit_and, Nat.testBit_and]
  cases s.testBit i <;> cases z.testBit i <;> cases (mkS β k).testBit i <;> rfl
theorem cnt_split2 (s z : Nat) : cnt s = cnt (s &&& z) + cnt (sdf s (s &&& z)) := by
  rw [← cnt_split s (s &&& z)]
  congr 2
  apply Nat.eq_of_testBit_eq
  intro i
  rw [Nat.testBit_and, Nat.testBit_and]
  cases s.testBit i <;> rfl
theorem sqr_id (a b l h : Int) : a * a * h * (l + h) + b * b * l * (l + h) - (a + b) * (a + b) * l * h = (a * h - b * l) * (a * h - b * l) := by grind
theorem sq_nn (x : Int) : 0 ≤ x * x := by
  rcases Int.le_total 0 x with h | h
  · exact Int.mul_nonneg h h
  · exact Int.mul_nonneg_of_nonpos_of_nonpos h h
theorem sqr_le (a b l h : Nat) : (a + b) * (a + b) * l * h ≤ a * a * h * (l + h) + b * b * l * (l + h) := by
  have h1 := sqr_id a b l h
  have h2 : (0 : Int) ≤ ((a : Int) * h - b * l) * ((a : Int) * h - b * l) := sq_nn _
  have h3 : (((a + b) * (a + b) * l * h : Nat) : Int) ≤ ((a * a * h * (l + h) + b * b * l * (l + h) : Nat) : Int) := by
    push_cast
    omega
  exact_mod_cast h3
theorem gA_ge (β : BT) (s z : Nat) : sqs β s * cnt (s &&& z) * cnt (sdf s (s &&& z)) ≤ sqs β (s &&& z) * cnt (sdf s (s &&& z)) * cnt s + sqs β (sdf s (s &&& z)) * cnt (s &&& z) * cnt s := by
  have e0 := ofS_split β s z 0
  have e1 := ofS_split β s z 1
  have e2 := ofS_split β s z 2
  have en := cnt_split2 s z
  unfold sqs
  rw [e0, e1, e2, en]
  generalize ofS β (s &&& z) 0 = a0
  generalize ofS β (s &&& z) 1 = a1
  generalize ofS β (s &&& z) 2 = a2
  generalize ofS β (sdf s (s &&& z)) 0 = b0
  generalize ofS β (sdf s (s &&& z)) 1 = b1
  generalize ofS β (sdf s (s &&& z)) 2 = b2
  generalize cnt (s &&& z) = l
  generalize cnt (sdf s (s &&& z)) = h
  have h0 := sqr_le a0 b0 l h
  have h1 := sqr_le a1 b1 l h
  have h2 := sqr_le a2 b2 l h
  have r1 : ((a0 + b0) * (a0 + b0) + (a1 + b1) * (a1 + b1) + (a2 + b2) * (a2 + b2)) * l * h = (a0 + b0) * (a0 + b0) * l * h + (a1 + b1) * (a1 + b1) * l * h + (a2 + b2) * (a2 + b2) * l * h := by simp only [Nat.add_mul]
  have r2 : (a0 * a0 + a1 * a1 + a2 * a2) * h * (l + h) = a0 * a0 * h * (l + h) + a1 * a1 * h * (l + h) + a2 * a2 * h * (l + h) := by simp only [Nat.add_mul]
  have r3 : (b0 * b0 + b1 * b1 + b2 * b2) * l * (l + h) = b0 * b0 * l * (l + h) + b1 * b1 * l * (l + h) + b2 * b2 * l * (l + h) := by simp only [Nat.add_mul]
  rw [r1, r2, r3]
  omega

set_option maxHeartbeats 2000000 in
set_option maxRecDepth 20000 in
theorem c_howMany {g : GT} {d : Nat} {h : MH} {β : BT} (hB : BH h β)  : J g (d) 0 0 mX0_howMany 0 (lv_args 0 [.ref (2)]) [] h (RI (nI β.1) h) := by
  obtain ⟨hW, mf, sf, tf, lf, b2, b3, bm, b7, b8, b9, em, es, et, el⟩ := id hB
  obtain ⟨hn, hc, hm5, hs2⟩ := id hW
  have hp := pw_le hn
  refine J_aload_n (i := 0) (pc := 0) dX0_howMany_0 rfl rfl ?_
  refine J_getf (k := 4) (pc := 1) dX0_howMany_1 flX0_26 b2 rfl ?_
  refine J_iret (ty := .int) (pc := 4) dX0_howMany_4 rfl rfl ?_
  exact ⟨rfl, rfl⟩

set_option maxHeartbeats 2000000 in
set_option maxRecDepth 20000 in
theorem c_checks {g : GT} {d : Nat} {h : MH} {β : BT} (hB : BH h β)  : J g (d) 0 0 mX0_checks 0 (lv_args 0 [.ref (2)]) [] h (RI (nI β.2.1) h) := by
  obtain ⟨hW, mf, sf, tf, lf, b2, b3, bm, b7, b8, b9, em, es, et, el⟩ := id hB
  obtain ⟨hn, hc, hm5, hs2⟩ := id hW
  have hp := pw_le hn
  refine J_aload_n (i := 0) (pc := 0) dX0_checks_0 rfl rfl ?_
  refine J_getf (k := 5) (pc := 1) dX0_checks_1 flX0_30 b2 rfl ?_
  refine J_iret (ty := .int) (pc := 4) dX0_checks_4 rfl rfl ?_
  exact ⟨rfl, rfl⟩

set_option maxHeartbeats 2000000 in
set_option maxRecDepth 20000 in
theorem c_growing {g : GT} {d : Nat} {h : MH} {β : BT} (hB : BH h β)  : J g (d) 0 0 mX0_growing 0 (lv_args 0 [.ref (2)]) [] h (RI (nI (gro β)) h) := by
  obtain ⟨hW, mf, sf, tf, lf, b2, b3, bm, b7, b8, b9, em, es, et, el⟩ := id hB
  obtain ⟨hn, hc, hm5, hs2⟩ := id hW
  have hp := pw_le hn
  refine J_iconst (v := nI (1)) (pc := 0) dX0_growing_0 rfl ?_
  refine J_aload_n (i := 0) (pc := 1) dX0_growing_1 rfl rfl ?_
  refine J_getf (k := 4) (pc := 2) dX0_growing_2 flX0_26 b2 rfl ?_
  refine J_ishlN (pc := 5) dX0_growing_5 (by omega) ?_
  refine J_iconst (v := nI (1)) (pc := 6) dX0_growing_6 rfl ?_
  refine J_isubN (pc := 7) dX0_growing_7 (by omega) ?_
  refine J_aload_n (i := 0) (pc := 8) dX0_growing_8 rfl rfl ?_
  refine J_getf (k := 5) (pc := 9) dX0_growing_9 flX0_30 b2 rfl ?_
  refine J_iconst (v := (-1)) (pc := 12) dX0_growing_12 rfl ?_
  refine J_ixor (pc := 13) dX0_growing_13 ?_
  refine J_iandX (pc := 14) dX0_growing_14 ?_
  refine J_iret (ty := .int) (pc := 15) dX0_growing_15 rfl rfl ?_
  exact ⟨rfl, rfl⟩

set_option maxHeartbeats 2000000 in
set_option maxRecDepth 20000 in
theorem c_measureOf {g : GT} {d : Nat} {h : MH} {β : BT} (hB : BH h β) {k m : Nat} (hk : k < β.1) (hm : m < 3) : J g (d) 0 0 mX0_measureOf 0 (lv_args 0 [.ref (2), .int (nI (k)), .int (nI (m))]) [] h (RI (nI (β.2.2.1 m k)) h) := by
  obtain ⟨hW, mf, sf, tf, lf, b2, b3, bm, b7, b8, b9, em, es, et, el⟩ := id hB
  obtain ⟨hn, hc, hm5, hs2⟩ := id hW
  have hp := pw_le hn
  refine J_aload_n (i := 0) (pc := 0) dX0_measureOf_0 rfl rfl ?_
  refine J_getf (k := 0) (pc := 1) dX0_measureOf_1 flX0_11 b2 rfl ?_
  refine J_iload_n (i := 2) (pc := 4) dX0_measureOf_4 rfl rfl ?_
  refine J_aald (j := m) (b := 4 + m) (pc := 5) dX0_measureOf_5 (by decide) b3 rfl (by omega) (by omega) (if_pos hm) ?_
  refine J_iload_n (i := 1) (pc := 6) dX0_measureOf_6 rfl rfl ?_
  refine J_iald (j := k) (pc := 7) dX0_measureOf_7 (bm m hm) rfl (by omega) (by omega) ?_
  refine J_iret (ty := .int) (pc := 8) dX0_measureOf_8 rfl rfl ?_
  exact ⟨congrArg (fun z : Int32 => (Sum.inl (some (Value.int z)) : RT)) (by exact em m k hm hk), rfl⟩

set_option maxHeartbeats 2000000 in
set_option maxRecDepth 20000 in
theorem c_sortOf {g : GT} {d : Nat} {h : MH} {β : BT} (hB : BH h β) {k : Nat} (hk : k < β.1) : J g (d) 0 0 mX0_sortOf 0 (lv_args 0 [.ref (2), .int (nI (k))]) [] h (RI (nI (β.2.2.2 k)) h) := by
  obtain ⟨hW, mf, sf, tf, lf, b2, b3, bm, b7, b8, b9, em, es, et, el⟩ := id hB
  obtain ⟨hn, hc, hm5, hs2⟩ := id hW
  have hp := pw_le hn
  refine J_aload_n (i := 0) (pc := 0) dX0_sortOf_0 rfl rfl ?_
  refine J_getf (k := 1) (pc := 1) dX0_sortOf_1 flX0_16 b2 rfl ?_
  refine J_iload_n (i := 1) (pc := 4) dX0_sortOf_4 rfl rfl ?_
  refine J_iald (j := k) (pc := 5) dX0_sortOf_5 b7 rfl (by omega) (by omega) ?_
  refine J_iret (ty := .int) (pc := 6) dX0_sortOf_6 rfl rfl ?_
  exact ⟨congrArg (fun z : Int32 => (Sum.inl (some (Value.int z)) : RT)) (by exact es k hk), rfl⟩

set_option maxHeartbeats 2000000 in
set_option maxRecDepth 20000 in
theorem c_isCheck {g : GT} {d : Nat} {h : MH} {β : BT} (hB : BH h β) {k : Nat} (hk : k < β.1) : J g (d + 1) 0 0 mX0_isCheck 0 (lv_args 0 [.ref (2), .int (nI (k))]) [] h (RI (bI (β.2.1.testBit k)) h) := by
  obtain ⟨hW, mf, sf, tf, lf, b2, b3, bm, b7, b8, b9, em, es, et, el⟩ := id hB
  obtain ⟨hn, hc, hm5, hs2⟩ := id hW
  have hp := pw_le hn
  refine J_aload_n (i := 0) (pc := 0) dX0_isCheck_0 rfl rfl ?_
  refine J_getf (k := 5) (pc := 1) dX0_isCheck_1 flX0_30 b2 rfl ?_
  refine J_iload_n (i := 1) (pc := 4) dX0_isCheck_4 rfl rfl ?_
  refine J_cSNi (st := []) (As := [.int (nI (β.2.1)), .int (nI (k))]) (pc := 5) dX0_isCheck_5 okX2_isIn q1_99 q1_100 rfl (Nat.le_of_ble_eq_true rfl) (Nat.le_of_ble_eq_true rfl) (c_isIn (by omega) (by omega)) ?_
  refine J_iret (ty := .boolean) (pc := 8) dX0_isCheck_8 rfl (nar_b _) ?_
  exact ⟨rfl, rfl⟩

set_option maxHeartbeats 2000000 in
set_option maxRecDepth 20000 in
theorem c_gainBelow {g : GT} {d : Nat} {h : MH} {s low : Nat} (hs : s < 2 ^ 20) (hl : low < 2 ^ 20) : J g (d + 1) 0 0 mX2_gainBelow 0 (lv_args 0 [.int (nI (s)), .int (nI (low))]) [] h (RI (nI (gB s low)) h) := by
  have h9 := sdf_le s low
  refine J_iload_n (i := 0) (pc := 0) dX2_gainBelow_0 rfl rfl ?_
  refine J_cSi (st := []) (As := [.int (nI (s))]) (pc := 1) dX2_gainBelow_1 okJ6_bitCount_0f7a4 q1_215 q1_186 rfl (Nat.le_of_ble_eq_true rfl) (Nat.le_of_ble_eq_true rfl) (c_bitCount (by omega)) ?_
  refine J_iload_n (i := 1) (pc := 4) dX2_gainBelow_4 rfl rfl ?_
  refine J_cSi (st := [.int (nI (cnt (s)))]) (As := [.int (nI (low))]) (pc := 5) dX2_gainBelow_5 okJ6_bitCount_0f7a4 q1_215 q1_186 rfl (Nat.le_of_ble_eq_true rfl) (Nat.le_of_ble_eq_true rfl) (c_bitCount (by omega)) ?_
  refine J_imulN (pc := 8) dX2_gainBelow_8 ?_
  refine J_iload_n (i := 0) (pc := 9) dX2_gainBelow_9 rfl rfl ?_
  refine J_iload_n (i := 1) (pc := 10) dX2_gainBelow_10 rfl rfl ?_
  refine J_iconst (v := (-1)) (pc := 11) dX2_gainBelow_11 rfl ?_
  refine J_ixor (pc := 12) dX2_gainBelow_12 ?_
  refine J_iandX (pc := 13) dX2_gainBelow_13 ?_
  refine J_cSi (st := [.int (nI ((cnt (s)) * (cnt (low))))]) (As := [.int (nI (sdf (s) (low)))]) (pc := 14) dX2_gainBelow_14 okJ6_bitCount_0f7a4 q1_215 q1_186 rfl (Nat.le_of_ble_eq_true rfl) (Nat.le_of_ble_eq_true rfl) (c_bitCount (by omega)) ?_
  refine J_imulN (pc := 17) dX2_gainBelow_17 ?_
  refine J_iret (ty := .int) (pc := 18) dX2_gainBelow_18 rfl rfl ?_
  exact ⟨rfl, rfl⟩

set_option maxHeartbeats 2000000 in
set_option maxRecDepth 20000 in
theorem c_howManyOfSort {g : GT} {d : Nat} {h : MH} {β : BT} (hB : BH h β) {s k : Nat} (hs : s < 2 ^ 20) (hk : k < 3) : J g (d + 1) 0 0 mX0_howManyOfSort 0 (lv_args 0 [.ref (2), .int (nI (s)), .int (nI (k))]) [] h (RI (nI (ofS β s k)) h) := by
  obtain ⟨hW, mf, sf, tf, lf, b2, b3, bm, b7, b8, b9, em, es, et, el⟩ := id hB
  obtain ⟨hn, hc, hm5, hs2⟩ := id hW
  have hp := pw_le hn
  have h9 : s &&& mkS β k ≤ s := Nat.and_le_left
  refine J_iload_n (i := 1) (pc := 0) dX0_howManyOfSort_0 rfl rfl ?_
  refine J_aload_n (i := 0) (pc := 1) dX0_howManyOfSort_1 rfl rfl ?_
  refine J_getf (k := 2) (pc := 2) dX0_howManyOfSort_2 flX0_20 b2 rfl ?_
  refine J_iload_n (i := 2) (pc := 5) dX0_howManyOfSort_5 rfl rfl ?_
  refine J_iald (j := k) (pc := 6) dX0_howManyOfSort_6 b8 rfl (by omega) (by omega) ?_
  rw [show tf k = nI (mkS β k) from et k hk]
  refine J_iandN (pc := 7) dX0_howManyOfSort_7 ?_
  refine J_cSi (st := []) (As := [.int (nI ((s) &&& (mkS β k)))]) (pc := 8) dX0_howManyOfSort_8 okJ6_bitCount_0f7a4 q1_185 q1_186 rfl (Nat.le_of_ble_eq_true rfl) (Nat.le_of_ble_eq_true rfl) (c_bitCount (by omega)) ?_
  refine J_iret (ty := .int) (pc := 11) dX0_howManyOfSort_11 rfl rfl ?_
  exact ⟨rfl, rfl⟩

set_option maxHeartbeats 2000000 in
set_option maxRecDepth 20000 in
theorem c_lowOf {g : GT} {d : Nat} {h : MH} {β : BT} (hB : BH h β) {s m x : Nat} (hm : m < 3) (hx : x < 51) : J g (d) 0 0 mX0_lowOf 0 (lv_args 0 [.ref (2), .int (nI (s)), .int (nI (m * 51 + x))]) [] h (RI (nI (s &&& mkL β m x)) h) := by
  obtain ⟨hW, mf, sf, tf, lf, b2, b3, bm, b7, b8, b9, em, es, et, el⟩ := id hB
  obtain ⟨hn, hc, hm5, hs2⟩ := id hW
  have hp := pw_le hn
  refine J_iload_n (i := 1) (pc := 0) dX0_lowOf_0 rfl rfl ?_
  refine J_aload_n (i := 0) (pc := 1) dX0_lowOf_1 rfl rfl ?_
  refine J_getf (k := 3) (pc := 2) dX0_lowOf_2 flX0_23 b2 rfl ?_
  refine J_iload_n (i := 2) (pc := 5) dX0_lowOf_5 rfl rfl ?_
  refine J_iald (j := m * 51 + x) (pc := 6) dX0_lowOf_6 b9 rfl (by omega) (by omega) ?_
  rw [show lf (m * 51 + x) = nI (mkL β m x) from el m x hm hx]
  refine J_iandN (pc := 7) dX0_lowOf_7 ?_
  refine J_iret (ty := .int) (pc := 8) dX0_lowOf_8 rfl rfl ?_
  exact ⟨rfl, rfl⟩

set_option maxHeartbeats 2000000 in
set_option maxRecDepth 20000 in
theorem c_leavesBoth {g : GT} {d : Nat} {h : MH} {s low le : Nat} (hs : s < 2 ^ 20) (hl : low < 2 ^ 20) (he : le < 2 ^ 31) : J g (d + 1) 0 0 mX0_leavesBoth 0 (lv_args 0 [.int (nI (s)), .int (nI (low)), .int (nI (le))]) [] h (RI (bI (decide (le ≤ cnt low) && decide (le ≤ cnt (sdf s low)))) h) := by
  have h9 := sdf_le s low
  have h8 := cnt_le low
  have h7 := cnt_le (sdf s low)
  refine J_iload_n (i := 1) (pc := 0) dX0_leavesBoth_0 rfl rfl ?_
  refine J_cSi (st := []) (As := [.int (nI (low))]) (pc := 1) dX0_leavesBoth_1 okJ6_bitCount_0f7a4 q1_185 q1_186 rfl (Nat.le_of_ble_eq_true rfl) (Nat.le_of_ble_eq_true rfl) (c_bitCount (by omega)) ?_
  refine J_iload_n (i := 2) (pc := 4) dX0_leavesBoth_4 rfl rfl ?_
  refine J_icmp_ltN (tgt := 24) (pc := 5) dX0_leavesBoth_5 (by decide) (by omega) (by omega) (fun c5 => ?_) (fun c5 => ?_)
  · skip
    refine J_iconst (v := nI (0)) (pc := 24) dX0_leavesBoth_24 rfl ?_
    refine J_iret (ty := .boolean) (pc := 25) dX0_leavesBoth_25 rfl rfl ?_
    exact ⟨congrArg (fun z : Int32 => (Sum.inl (some (Value.int z)) : RT)) (by first | (rw [show (decide (le ≤ cnt low) && decide (le ≤ cnt (sdf s low))) = true from by rw [Bool.and_eq_true, decide_eq_true_eq, decide_eq_true_eq]; omega]; rfl) | (rw [show (decide (le ≤ cnt low) && decide (le ≤ cnt (sdf s low))) = false from by rw [Bool.and_eq_false_iff, decide_eq_false_iff_not, decide_eq_false_iff_not]; omega]; rfl)), rfl⟩
  · skip
    refine J_iload_n (i := 0) (pc := 8) dX0_leavesBoth_8 rfl rfl ?_
    refine J_iload_n (i := 1) (pc := 9) dX0_leavesBoth_9 rfl rfl ?_
    refine J_iconst (v := (-1)) (pc := 10) dX0_leavesBoth_10 rfl ?_
    refine J_ixor (pc := 11) dX0_leavesBoth_11 ?_
    refine J_iandX (pc := 12) dX0_leavesBoth_12 ?_
    refine J_cSi (st := []) (As := [.int (nI (sdf (s) (low)))]) (pc := 13) dX0_leavesBoth_13 okJ6_bitCount_0f7a4 q1_185 q1_186 rfl (Nat.le_of_ble_eq_true rfl) (Nat.le_of_ble_eq_true rfl) (c_bitCount (by omega)) ?_
    refine J_iload_n (i := 2) (pc := 16) dX0_leavesBoth_16 rfl rfl ?_
    refine J_icmp_ltN (tgt := 24) (pc := 17) dX0_leavesBoth_17 (by decide) (by omega) (by omega) (fun c17 => ?_) (fun c17 => ?_)
    · skip
      refine J_iconst (v := nI (0)) (pc := 24) dX0_leavesBoth_24 rfl ?_
      refine J_iret (ty := .boolean) (pc := 25) dX0_leavesBoth_25 rfl rfl ?_
      exact ⟨congrArg (fun z : Int32 => (Sum.inl (some (Value.int z)) : RT)) (by first | (rw [show (decide (le ≤ cnt low) && decide (le ≤ cnt (sdf s low))) = true from by rw [Bool.and_eq_true, decide_eq_true_eq, decide_eq_true_eq]; omega]; rfl) | (rw [show (decide (le ≤ cnt low) && decide (le ≤ cnt (sdf s low))) = false from by rw [Bool.and_eq_false_iff, decide_eq_false_iff_not, decide_eq_false_iff_not]; omega]; rfl)), rfl⟩
    · skip
      refine J_iconst (v := nI (1)) (pc := 20) dX0_leavesBoth_20 rfl ?_
      refine J_goto (tgt := 25) (pc := 21) dX0_leavesBoth_21 (by decide) ?_
      refine J_iret (ty := .boolean) (pc := 25) dX0_leavesBoth_25 rfl rfl ?_
      exact ⟨congrArg (fun z : Int32 => (Sum.inl (some (Value.int z)) : RT)) (by first | (rw [show (decide (le ≤ cnt low) && decide (le ≤ cnt (sdf s low))) = true from by rw [Bool.and_eq_true, decide_eq_true_eq, decide_eq_true_eq]; omega]; rfl) | (rw [show (decide (le ≤ cnt low) && decide (le ≤ cnt (sdf s low))) = false from by rw [Bool.and_eq_false_iff, decide_eq_false_iff_not, decide_eq_false_iff_not]; omega]; rfl)), rfl⟩

set_option maxHeartbeats 2000000 in
set_option maxRecDepth 20000 in
theorem c_squares {g : GT} {d : Nat} {h : MH} {β : BT} (hB : BH h β) {s : Nat} (hs : s < 2 ^ 20) : J g (d + 2) 0 0 mX0_squares 0 (lv_args 0 [.ref (2), .int (nI (s))]) [] h (RI (nI (sqs β s)) h) := by
  obtain ⟨hW, mf, sf, tf, lf, b2, b3, bm, b7, b8, b9, em, es, et, el⟩ := id hB
  obtain ⟨hn, hc, hm5, hs2⟩ := id hW
  have hp := pw_le hn
  refine J_iconst (v := nI (0)) (pc := 0) dX0_squares_0 rfl ?_
  refine J_istore_n (i := 2) (lv' := [(2, .int (nI (0))), (0, .ref (2)), (1, .int (nI (s)))]) (pc := 1) dX0_squares_1 rfl (by decide) rfl ?_
  refine J_iconst (v := nI (0)) (pc := 2) dX0_squares_2 rfl ?_
  refine J_istore_n (i := 3) (lv' := [(3, .int (nI (0))), (2, .int (nI (0))), (0, .ref (2)), (1, .int (nI (s)))]) (pc := 3) dX0_squares_3 rfl (by decide) rfl ?_
  refine J_iload_n (i := 3) (pc := 4) dX0_squares_4 rfl rfl ?_
  refine J_iconst (v := nI (3)) (pc := 5) dX0_squares_5 rfl ?_
  refine J_icmp_geN (tgt := 31) (pc := 6) dX0_squares_6 (by decide) (by omega) (by omega) (fun c6 => by exfalso; first | omega | simp_all) (fun c6 => ?_)
  refine J_aload_n (i := 0) (pc := 9) dX0_squares_9 rfl rfl ?_
  refine J_iload_n (i := 1) (pc := 10) dX0_squares_10 rfl rfl ?_
  refine J_iload_n (i := 3) (pc := 11) dX0_squares_11 rfl rfl ?_
  refine J_cVi (st := []) (As := [.int (nI (s)), .int (nI (0))]) (pc := 12) dX0_squares_12 okX0_howManyOfSort q1_181 q1_182 q1_183 (rfl : vwCl[0]? = some _) b2 rfl (Nat.le_of_ble_eq_true rfl) (Nat.le_of_ble_eq_true rfl) (c_howManyOfSort hB (by omega) (by omega)) ?_
  refine J_istore (i := 4) (lv' := [(4, .int (nI (ofS β s 0))), (3, .int (nI (0))), (2, .int (nI (0))), (0, .ref (2)), (1, .int (nI (s)))]) (pc := 15) dX0_squares_15 (by decide) rfl ?_
  refine J_iload_n (i := 2) (pc := 17) dX0_squares_17 rfl rfl ?_
  refine J_iload (i := 4) (pc := 18) dX0_squares_18 rfl ?_
  refine J_iload (i := 4) (pc := 20) dX0_squares_20 rfl ?_
  refine J_imulN (pc := 22) dX0_squares_22 ?_
  refine J_iaddN (pc := 23) dX0_squares_23 ?_
  refine J_istore_n (i := 2) (lv' := [(2, .int (nI (0 + ((ofS β s 0) * (ofS β s 0))))), (4, .int (nI (ofS β s 0))), (3, .int (nI (0))), (0, .ref (2)), (1, .int (nI (s)))]) (pc := 24) dX0_squares_24 rfl (by decide) rfl ?_
  refine J_iinc (i := 3) (v := nI (1)) (lv' := [(3, .int (nI (1))), (2, .int (nI (0 + ((ofS β s 0) * (ofS β s 0))))), (4, .int (nI (ofS β s 0))), (0, .ref (2)), (1, .int (nI (s)))]) (pc := 25) dX0_squares_25 rfl rfl (by decide) rfl ?_
  refine J_goto (tgt := 4) (pc := 28) dX0_squares_28 (by decide) ?_
  refine J_iload_n (i := 3) (pc := 4) dX0_squares_4 rfl rfl ?_
  refine J_iconst (v := nI (3)) (pc := 5) dX0_squares_5 rfl ?_
  refine J_icmp_geN (tgt := 31) (pc := 6) dX0_squares_6 (by decide) (by omega) (by omega) (fun c6 => by exfalso; first | omega | simp_all) (fun c6 => ?_)
  refine J_aload_n (i := 0) (pc := 9) dX0_squares_9 rfl rfl ?_
  refine J_iload_n (i := 1) (pc := 10) dX0_squares_10 rfl rfl ?_
  refine J_iload_n (i := 3) (pc := 11) dX0_squares_11 rfl rfl ?_
  refine J_cVi (st := []) (As := [.int (nI (s)), .int (nI (1))]) (pc := 12) dX0_squares_12 okX0_howManyOfSort q1_181 q1_182 q1_183 (rfl : vwCl[0]? = some _) b2 rfl (Nat.le_of_ble_eq_true rfl) (Nat.le_of_ble_eq_true rfl) (c_howManyOfSort hB (by omega) (by omega)) ?_
  refine J_istore (i := 4) (lv' := [(4, .int (nI (ofS β s 1))), (3, .int (nI (1))), (2, .int (nI (0 + ((ofS β s 0) * (ofS β s 0))))), (0, .ref (2)), (1, .int (nI (s)))]) (pc := 15) dX0_squares_15 (by decide) rfl ?_
  refine J_iload_n (i := 2) (pc := 17) dX0_squares_17 rfl rfl ?_
  refine J_iload (i := 4) (pc := 18) dX0_squares_18 rfl ?_
  refine J_iload (i := 4) (pc := 20) dX0_squares_20 rfl ?_
  refine J_imulN (pc := 22) dX0_squares_22 ?_
  refine J_iaddN (pc := 23) dX0_squares_23 ?_
  refine J_istore_n (i := 2) (lv' := [(2, .int (nI ((0 + ((ofS β s 0) * (ofS β s 0))) + ((ofS β s 1) * (ofS β s 1))))), (4, .int (nI (ofS β s 1))), (3, .int (nI (1))), (0, .ref (2)), (1, .int (nI (s)))]) (pc := 24) dX0_squares_24 rfl (by decide) rfl ?_
  refine J_iinc (i := 3) (v := nI (2)) (lv' := [(3, .int (nI (2))), (2, .int (nI ((0 + ((ofS β s 0) * (ofS β s 0))) + ((ofS β s 1) * (ofS β s 1))))), (4, .int (nI (ofS β s 1))), (0, .ref (2)), (1, .int (nI (s)))]) (pc := 25) dX0_squares_25 rfl rfl (by decide) rfl ?_
  refine J_goto (tgt := 4) (pc := 28) dX0_squares_28 (by decide) ?_
  refine J_iload_n (i := 3) (pc := 4) dX0_squares_4 rfl rfl ?_
  refine J_iconst (v := nI (3)) (pc := 5) dX0_squares_5 rfl ?_
  refine J_icmp_geN (tgt := 31) (pc := 6) dX0_squares_6 (by decide) (by omega) (by omega) (fun c6 => by exfalso; first | omega | simp_all) (fun c6 => ?_)
  refine J_aload_n (i := 0) (pc := 9) dX0_squares_9 rfl rfl ?_
  refine J_iload_n (i := 1) (pc := 10) dX0_squares_10 rfl rfl ?_
  refine J_iload_n (i := 3) (pc := 11) dX0_squares_11 rfl rfl ?_
  refine J_cVi (st := []) (As := [.int (nI (s)), .int (nI (2))]) (pc := 12) dX0_squares_12 okX0_howManyOfSort q1_181 q1_182 q1_183 (rfl : vwCl[0]? = some _) b2 rfl (Nat.le_of_ble_eq_true rfl) (Nat.le_of_ble_eq_true rfl) (c_howManyOfSort hB (by omega) (by omega)) ?_
  refine J_istore (i := 4) (lv' := [(4, .int (nI (ofS β s 2))), (3, .int (nI (2))), (2, .int (nI ((0 + ((ofS β s 0) * (ofS β s 0))) + ((ofS β s 1) * (ofS β s 1))))), (0, .ref (2)), (1, .int (nI (s)))]) (pc := 15) dX0_squares_15 (by decide) rfl ?_
  refine J_iload_n (i := 2) (pc := 17) dX0_squares_17 rfl rfl ?_
  refine J_iload (i := 4) (pc := 18) dX0_squares_18 rfl ?_
  refine J_iload (i := 4) (pc := 20) dX0_squares_20 rfl ?_
  refine J_imulN (pc := 22) dX0_squares_22 ?_
  refine J_iaddN (pc := 23) dX0_squares_23 ?_
  refine J_istore_n (i := 2) (lv' := [(2, .int (nI (((0 + ((ofS β s 0) * (ofS β s 0))) + ((ofS β s 1) * (ofS β s 1))) + ((ofS β s 2) * (ofS β s 2))))), (4, .int (nI (ofS β s 2))), (3, .int (nI (2))), (0, .ref (2)), (1, .int (nI (s)))]) (pc := 24) dX0_squares_24 rfl (by decide) rfl ?_
  refine J_iinc (i := 3) (v := nI (3)) (lv' := [(3, .int (nI (3))), (2, .int (nI (((0 + ((ofS β s 0) * (ofS β s 0))) + ((ofS β s 1) * (ofS β s 1))) + ((ofS β s 2) * (ofS β s 2))))), (4, .int (nI (ofS β s 2))), (0, .ref (2)), (1, .int (nI (s)))]) (pc := 25) dX0_squares_25 rfl rfl (by decide) rfl ?_
  refine J_goto (tgt := 4) (pc := 28) dX0_squares_28 (by decide) ?_
  refine J_iload_n (i := 3) (pc := 4) dX0_squares_4 rfl rfl ?_
  refine J_iconst (v := nI (3)) (pc := 5) dX0_squares_5 rfl ?_
  refine J_icmp_geN (tgt := 31) (pc := 6) dX0_squares_6 (by decide) (by omega) (by omega) (fun c6 => ?_) (fun c6 => by exfalso; first | omega | simp_all)
  refine J_iload_n (i := 2) (pc := 31) dX0_squares_31 rfl rfl ?_
  refine J_iret (ty := .int) (pc := 32) dX0_squares_32 rfl rfl ?_
  exact ⟨congrArg (fun z : Int32 => (Sum.inl (some (Value.int z)) : RT)) (by unfold sqs; congr 1; omega), rfl⟩

set_option maxHeartbeats 2000000 in
set_option maxRecDepth 20000 in
theorem c_mostOf {g : GT} {d : Nat} {h : MH} {β : BT} (hB : BH h β) {s : Nat} (hs : s < 2 ^ 20) : J g (d + 2) 0 0 mX0_mostOf 0 (lv_args 0 [.ref (2), .int (nI (s))]) [] h (RI (nI (mostS β s)) h) := by
  obtain ⟨hW, mf, sf, tf, lf, b2, b3, bm, b7, b8, b9, em, es, et, el⟩ := id hB
  obtain ⟨hn, hc, hm5, hs2⟩ := id hW
  have hp := pw_le hn
  have h0 := ofS_le β s 0
  have h1 := ofS_le β s 1
  have h2 := ofS_le β s 2
  refine J_iconst (v := nI (0)) (pc := 0) dX0_mostOf_0 rfl ?_
  refine J_istore_n (i := 2) (lv' := [(2, .int (nI (0))), (0, .ref (2)), (1, .int (nI (s)))]) (pc := 1) dX0_mostOf_1 rfl (by decide) rfl ?_
  refine J_iconst (v := nI (1)) (pc := 2) dX0_mostOf_2 rfl ?_
  refine J_istore_n (i := 3) (lv' := [(3, .int (nI (1))), (2, .int (nI (0))), (0, .ref (2)), (1, .int (nI (s)))]) (pc := 3) dX0_mostOf_3 rfl (by decide) rfl ?_
  refine J_iload_n (i := 3) (pc := 4) dX0_mostOf_4 rfl rfl ?_
  refine J_iconst (v := nI (3)) (pc := 5) dX0_mostOf_5 rfl ?_
  refine J_icmp_geN (tgt := 32) (pc := 6) dX0_mostOf_6 (by decide) (by omega) (by omega) (fun c6 => by exfalso; first | omega | simp_all) (fun c6 => ?_)
  refine J_aload_n (i := 0) (pc := 9) dX0_mostOf_9 rfl rfl ?_
  refine J_iload_n (i := 1) (pc := 10) dX0_mostOf_10 rfl rfl ?_
  refine J_iload_n (i := 3) (pc := 11) dX0_mostOf_11 rfl rfl ?_
  refine J_cVi (st := []) (As := [.int (nI (s)), .int (nI (1))]) (pc := 12) dX0_mostOf_12 okX0_howManyOfSort q1_181 q1_182 q1_183 (rfl : vwCl[0]? = some _) b2 rfl (Nat.le_of_ble_eq_true rfl) (Nat.le_of_ble_eq_true rfl) (c_howManyOfSort hB (by omega) (by omega)) ?_
  refine J_aload_n (i := 0) (pc := 15) dX0_mostOf_15 rfl rfl ?_
  refine J_iload_n (i := 1) (pc := 16) dX0_mostOf_16 rfl rfl ?_
  refine J_iload_n (i := 2) (pc := 17) dX0_mostOf_17 rfl rfl ?_
  refine J_cVi (st := [.int (nI (ofS β s 1))]) (As := [.int (nI (s)), .int (nI (0))]) (pc := 18) dX0_mostOf_18 okX0_howManyOfSort q1_181 q1_182 q1_183 (rfl : vwCl[0]? = some _) b2 rfl (Nat.le_of_ble_eq_true rfl) (Nat.le_of_ble_eq_true rfl) (c_howManyOfSort hB (by omega) (by omega)) ?_
  refine J_icmp_leN (tgt := 26) (pc := 21) dX0_mostOf_21 (by decide) (by omega) (by omega) (fun c21 => ?_) (fun c21 => ?_)
  · skip
    refine J_iinc (i := 3) (v := nI (2)) (lv' := [(3, .int (nI (2))), (2, .int (nI (0))), (0, .ref (2)), (1, .int (nI (s)))]) (pc := 26) dX0_mostOf_26 rfl rfl (by decide) rfl ?_
    refine J_goto (tgt := 4) (pc := 29) dX0_mostOf_29 (by decide) ?_
    refine J_iload_n (i := 3) (pc := 4) dX0_mostOf_4 rfl rfl ?_
    refine J_iconst (v := nI (3)) (pc := 5) dX0_mostOf_5 rfl ?_
    refine J_icmp_geN (tgt := 32) (pc := 6) dX0_mostOf_6 (by decide) (by omega) (by omega) (fun c6 => by exfalso; first | omega | simp_all) (fun c6 => ?_)
    refine J_aload_n (i := 0) (pc := 9) dX0_mostOf_9 rfl rfl ?_
    refine J_iload_n (i := 1) (pc := 10) dX0_mostOf_10 rfl rfl ?_
    refine J_iload_n (i := 3) (pc := 11) dX0_mostOf_11 rfl rfl ?_
    refine J_cVi (st := []) (As := [.int (nI (s)), .int (nI (2))]) (pc := 12) dX0_mostOf_12 okX0_howManyOfSort q1_181 q1_182 q1_183 (rfl : vwCl[0]? = some _) b2 rfl (Nat.le_of_ble_eq_true rfl) (Nat.le_of_ble_eq_true rfl) (c_howManyOfSort hB (by omega) (by omega)) ?_
    refine J_aload_n (i := 0) (pc := 15) dX0_mostOf_15 rfl rfl ?_
    refine J_iload_n (i := 1) (pc := 16) dX0_mostOf_16 rfl rfl ?_
    refine J_iload_n (i := 2) (pc := 17) dX0_mostOf_17 rfl rfl ?_
    refine J_cVi (st := [.int (nI (ofS β s 2))]) (As := [.int (nI (s)), .int (nI (0))]) (pc := 18) dX0_mostOf_18 okX0_howManyOfSort q1_181 q1_182 q1_183 (rfl : vwCl[0]? = some _) b2 rfl (Nat.le_of_ble_eq_true rfl) (Nat.le_of_ble_eq_true rfl) (c_howManyOfSort hB (by omega) (by omega)) ?_
    refine J_icmp_leN (tgt := 26) (pc := 21) dX0_mostOf_21 (by decide) (by omega) (by omega) (fun c21 => ?_) (fun c21 => ?_)
    · skip
      refine J_iinc (i := 3) (v := nI (3)) (lv' := [(3, .int (nI (3))), (2, .int (nI (0))), (0, .ref (2)), (1, .int (nI (s)))]) (pc := 26) dX0_mostOf_26 rfl rfl (by decide) rfl ?_
      refine J_goto (tgt := 4) (pc := 29) dX0_mostOf_29 (by decide) ?_
      refine J_iload_n (i := 3) (pc := 4) dX0_mostOf_4 rfl rfl ?_
      refine J_iconst (v := nI (3)) (pc := 5) dX0_mostOf_5 rfl ?_
      refine J_icmp_geN (tgt := 32) (pc := 6) dX0_mostOf_6 (by decide) (by omega) (by omega) (fun c6 => ?_) (fun c6 => by exfalso; first | omega | simp_all)
      refine J_iload_n (i := 2) (pc := 32) dX0_mostOf_32 rfl rfl ?_
      refine J_iret (ty := .int) (pc := 33) dX0_mostOf_33 rfl rfl ?_
      exact ⟨congrArg (fun z : Int32 => (Sum.inl (some (Value.int z)) : RT)) (by congr 1; unfold mostS mostA; (repeat' split) <;> omega), rfl⟩
    · skip
      refine J_iload_n (i := 3) (pc := 24) dX0_mostOf_24 rfl rfl ?_
      refine J_istore_n (i := 2) (lv' := [(2, .int (nI (2))), (3, .int (nI (2))), (0, .ref (2)), (1, .int (nI (s)))]) (pc := 25) dX0_mostOf_25 rfl (by decide) rfl ?_
      refine J_iinc (i := 3) (v := nI (3)) (lv' := [(3, .int (nI (3))), (2, .int (nI (2))), (0, .ref (2)), (1, .int (nI (s)))]) (pc := 26) dX0_mostOf_26 rfl rfl (by decide) rfl ?_
      refine J_goto (tgt := 4) (pc := 29) dX0_mostOf_29 (by decide) ?_
      refine J_iload_n (i := 3) (pc := 4) dX0_mostOf_4 rfl rfl ?_
      refine J_iconst (v := nI (3)) (pc := 5) dX0_mostOf_5 rfl ?_
      refine J_icmp_geN (tgt := 32) (pc := 6) dX0_mostOf_6 (by decide) (by omega) (by omega) (fun c6 => ?_) (fun c6 => by exfalso; first | omega | simp_all)
      refine J_iload_n (i := 2) (pc := 32) dX0_mostOf_32 rfl rfl ?_
      refine J_iret (ty := .int) (pc := 33) dX0_mostOf_33 rfl rfl ?_
      exact ⟨congrArg (fun z : Int32 => (Sum.inl (some (Value.int z)) : RT)) (by congr 1; unfold mostS mostA; (repeat' split) <;> omega), rfl⟩
  · skip
    refine J_iload_n (i := 3) (pc := 24) dX0_mostOf_24 rfl rfl ?_
    refine J_istore_n (i := 2) (lv' := [(2, .int (nI (1))), (3, .int (nI (1))), (0, .ref (2)), (1, .int (nI (s)))]) (pc := 25) dX0_mostOf_25 rfl (by decide) rfl ?_
    refine J_iinc (i := 3) (v := nI (2)) (lv' := [(3, .int (nI (2))), (2, .int (nI (1))), (0, .ref (2)), (1, .int (nI (s)))]) (pc := 26) dX0_mostOf_26 rfl rfl (by decide) rfl ?_
    refine J_goto (tgt := 4) (pc := 29) dX0_mostOf_29 (by decide) ?_
    refine J_iload_n (i := 3) (pc := 4) dX0_mostOf_4 rfl rfl ?_
    refine J_iconst (v := nI (3)) (pc := 5) dX0_mostOf_5 rfl ?_
    refine J_icmp_geN (tgt := 32) (pc := 6) dX0_mostOf_6 (by decide) (by omega) (by omega) (fun c6 => by exfalso; first | omega | simp_all) (fun c6 => ?_)
    refine J_aload_n (i := 0) (pc := 9) dX0_mostOf_9 rfl rfl ?_
    refine J_iload_n (i := 1) (pc := 10) dX0_mostOf_10 rfl rfl ?_
    refine J_iload_n (i := 3) (pc := 11) dX0_mostOf_11 rfl rfl ?_
    refine J_cVi (st := []) (As := [.int (nI (s)), .int (nI (2))]) (pc := 12) dX0_mostOf_12 okX0_howManyOfSort q1_181 q1_182 q1_183 (rfl : vwCl[0]? = some _) b2 rfl (Nat.le_of_ble_eq_true rfl) (Nat.le_of_ble_eq_true rfl) (c_howManyOfSort hB (by omega) (by omega)) ?_
    refine J_aload_n (i := 0) (pc := 15) dX0_mostOf_15 rfl rfl ?_
    refine J_iload_n (i := 1) (pc := 16) dX0_mostOf_16 rfl rfl ?_
    refine J_iload_n (i := 2) (pc := 17) dX0_mostOf_17 rfl rfl ?_
    refine J_cVi (st := [.int (nI (ofS β s 2))]) (As := [.int (nI (s)), .int (nI (1))]) (pc := 18) dX0_mostOf_18 okX0_howManyOfSort q1_181 q1_182 q1_183 (rfl : vwCl[0]? = some _) b2 rfl (Nat.le_of_ble_eq_true rfl) (Nat.le_of_ble_eq_true rfl) (c_howManyOfSort hB (by omega) (by omega)) ?_
    refine J_icmp_leN (tgt := 26) (pc := 21) dX0_mostOf_21 (by decide) (by omega) (by omega) (fun c21 => ?_) (fun c21 => ?_)
    · skip
      refine J_iinc (i := 3) (v := nI (3)) (lv' := [(3, .int (nI (3))), (2, .int (nI (1))), (0, .ref (2)), (1, .int (nI (s)))]) (pc := 26) dX0_mostOf_26 rfl rfl (by decide) rfl ?_
      refine J_goto (tgt := 4) (pc := 29) dX0_mostOf_29 (by decide) ?_
      refine J_iload_n (i := 3) (pc := 4) dX0_mostOf_4 rfl rfl ?_
      refine J_iconst (v := nI (3)) (pc := 5) dX0_mostOf_5 rfl ?_
      refine J_icmp_geN (tgt := 32) (pc := 6) dX0_mostOf_6 (by decide) (by omega) (by omega) (fun c6 => ?_) (fun c6 => by exfalso; first | omega | simp_all)
      refine J_iload_n (i := 2) (pc := 32) dX0_mostOf_32 rfl rfl ?_
      refine J_iret (ty := .int) (pc := 33) dX0_mostOf_33 rfl rfl ?_
      exact ⟨congrArg (fun z : Int32 => (Sum.inl (some (Value.int z)) : RT)) (by congr 1; unfold mostS mostA; (repeat' split) <;> omega), rfl⟩
    · skip
      refine J_iload_n (i := 3) (pc := 24) dX0_mostOf_24 rfl rfl ?_
      refine J_istore_n (i := 2) (lv' := [(2, .int (nI (2))), (3, .int (nI (2))), (0, .ref (2)), (1, .int (nI (s)))]) (pc := 25) dX0_mostOf_25 rfl (by decide) rfl ?_
      refine J_iinc (i := 3) (v := nI (3)) (lv' := [(3, .int (nI (3))), (2, .int (nI (2))), (0, .ref (2)), (1, .int (nI (s)))]) (pc := 26) dX0_mostOf_26 rfl rfl (by decide) rfl ?_
      refine J_goto (tgt := 4) (pc := 29) dX0_mostOf_29 (by decide) ?_
      refine J_iload_n (i := 3) (pc := 4) dX0_mostOf_4 rfl rfl ?_
      refine J_iconst (v := nI (3)) (pc := 5) dX0_mostOf_5 rfl ?_
      refine J_icmp_geN (tgt := 32) (pc := 6) dX0_mostOf_6 (by decide) (by omega) (by omega) (fun c6 => ?_) (fun c6 => by exfalso; first | omega | simp_all)
      refine J_iload_n (i := 2) (pc := 32) dX0_mostOf_32 rfl rfl ?_
      refine J_iret (ty := .int) (pc := 33) dX0_mostOf_33 rfl rfl ?_
      exact ⟨congrArg (fun z : Int32 => (Sum.inl (some (Value.int z)) : RT)) (by congr 1; unfold mostS mostA; (repeat' split) <;> omega), rfl⟩
