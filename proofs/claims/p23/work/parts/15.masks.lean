-- sets as masks of bits; how many; Integer.bitCount
def msk (p : Nat → Bool) : Nat → Nat
  | 0 => 0
  | n + 1 => msk p n + (if p n then 2 ^ n else 0)
theorem msk_lt (p : Nat → Bool) : ∀ n, msk p n < 2 ^ n
  | 0 => Nat.one_pos
  | n + 1 => by
    have h := msk_lt p n
    rw [msk, Nat.pow_succ]
    split <;> omega
theorem msk_bit (p : Nat → Bool) : ∀ n k, (msk p n).testBit k = (decide (k < n) && p k)
  | 0, k => by simp [msk]
  | n + 1, k => by
    have hl := msk_lt p n
    have ih := msk_bit p n k
    rw [msk]
    by_cases hp : p n = true
    · rw [if_pos hp, Nat.add_comm]
      by_cases hk : k < n
      · rw [Nat.testBit_two_pow_add_gt hk, ih]
        simp [hk, Nat.lt_succ_of_lt hk]
      · by_cases hk2 : k = n
        · subst hk2
          rw [Nat.testBit_two_pow_add_eq, ih]
          simp [hp]
        · have h2 : 2 ^ n + msk p n < 2 ^ k := by
            have : 2 ^ (n + 1) ≤ 2 ^ k := Nat.pow_le_pow_right (by decide) (by omega)
            rw [Nat.pow_succ] at this
            omega
          rw [Nat.testBit_lt_two_pow h2]
          have : ¬ k < n + 1 := by omega
          simp [this]
    · have hp' : p n = false := by simpa using hp
      rw [if_neg hp, Nat.add_zero, ih]
      by_cases hk : k < n
      · simp [hk, Nat.lt_succ_of_lt hk]
      · by_cases hk2 : k = n
        · subst hk2
          simp [hp']
        · have : ¬ k < n + 1 := by omega
          simp [hk, this]
theorem bit_lt {s n : Nat} (h : s < 2 ^ n) {k : Nat} (hk : s.testBit k = true) : k < n := by
  rcases Nat.lt_or_ge k n with h1 | h1
  · exact h1
  · have : s < 2 ^ k := Nat.lt_of_lt_of_le h (Nat.pow_le_pow_right (by decide) h1)
    rw [Nat.testBit_lt_two_pow this] at hk
    cases hk
/-- a mask below 2^n is told by its bits below n -/
theorem msk_ext {a b n : Nat} (ha : a < 2 ^ n) (hb : b < 2 ^ n) (h : ∀ k, k < n → a.testBit k = b.testBit k) : a = b := by
  apply Nat.eq_of_testBit_eq
  intro k
  by_cases hk : k < n
  · exact h k hk
  · have h1 : a < 2 ^ k := Nat.lt_of_lt_of_le ha (Nat.pow_le_pow_right (by decide) (by omega))
    have h2 : b < 2 ^ k := Nat.lt_of_lt_of_le hb (Nat.pow_le_pow_right (by decide) (by omega))
    rw [Nat.testBit_lt_two_pow h1, Nat.testBit_lt_two_pow h2]
theorem msk_congr {p q : Nat → Bool} : ∀ {n : Nat}, (∀ k, k < n → p k = q k) → msk p n = msk q n
  | 0, _ => rfl
  | n + 1, h => by
    rw [msk, msk, msk_congr (fun k hk => h k (Nat.lt_succ_of_lt hk)), h n (Nat.lt_succ_self n)]
def pcn (s : Nat) : Nat → Nat
  | 0 => 0
  | n + 1 => pcn s n + (if s.testBit n then 1 else 0)
def cnt (s : Nat) : Nat := pcn s 20
theorem pcn_congr {a b : Nat} : ∀ {n : Nat}, (∀ k, k < n → a.testBit k = b.testBit k) → pcn a n = pcn b n
  | 0, _ => rfl
  | n + 1, h => by
    rw [pcn, pcn, pcn_congr (fun k hk => h k (Nat.lt_succ_of_lt hk)), h n (Nat.lt_succ_self n)]
theorem pcn_le (s : Nat) : ∀ n, pcn s n ≤ n
  | 0 => Nat.le_refl _
  | n + 1 => by
    have := pcn_le s n
    rw [pcn]
    split <;> omega
theorem pcn_up {s m : Nat} (hs : s < 2 ^ m) : ∀ n, pcn s (m + n) = pcn s m
  | 0 => rfl
  | n + 1 => by
    have h : s < 2 ^ (m + n) := Nat.lt_of_lt_of_le hs (Nat.pow_le_pow_right (by decide) (by omega))
    rw [← Nat.add_assoc, pcn, pcn_up hs n, Nat.testBit_lt_two_pow h]
    simp
theorem pcn_pos {s : Nat} : ∀ {n k : Nat}, k < n → s.testBit k = true → 0 < pcn s n
  | 0, k, h, _ => absurd h (Nat.not_lt_zero _)
  | n + 1, k, h, hb => by
    rw [pcn]
    by_cases e : k = n
    · subst e
      rw [hb]
      simp
    · have := pcn_pos (n := n) (show k < n by omega) hb
      omega
theorem pcn_0 {s : Nat} : ∀ {n : Nat}, pcn s n = 0 → ∀ k, k < n → s.testBit k = false := by
  intro n h k hk
  cases hb : s.testBit k with
  | false => rfl
  | true =>
    have := pcn_pos hk hb
    omega
theorem pcn_add {a b c : Nat} : ∀ {n : Nat}, (∀ k, k < n → (if a.testBit k then 1 else 0) + (if b.testBit k then 1 else 0) = (if c.testBit k then 1 else 0)) → pcn a n + pcn b n = pcn c n
  | 0, _ => rfl
  | n + 1, h => by
    have h1 := pcn_add (a := a) (b := b) (c := c) (n := n) (fun k hk => h k (Nat.lt_succ_of_lt hk))
    have h2 := h n (Nat.lt_succ_self n)
    rw [pcn, pcn, pcn]
    omega
theorem cnt_le (s : Nat) : cnt s ≤ 20 := pcn_le s 20
theorem cnt_split (a b : Nat) : cnt (a &&& b) + cnt (sdf a b) = cnt a := by
  apply pcn_add
  intro k _
  rw [Nat.testBit_and, sdf_bit]
  cases a.testBit k <;> cases b.testBit k <;> rfl
theorem cnt_0 {s : Nat} (hs : s < 2 ^ 20) : cnt s = 0 ↔ s = 0 := by
  constructor
  · intro h
    exact msk_ext hs (by decide) (fun k hk => by rw [pcn_0 h k hk, Nat.zero_testBit])
  · intro h
    subst h
    decide +kernel
theorem pcn_mono {a b : Nat} : ∀ {n : Nat}, (∀ k, k < n → a.testBit k = true → b.testBit k = true) → pcn a n ≤ pcn b n
  | 0, _ => Nat.le_refl _
  | n + 1, h => by
    have h1 := pcn_mono (a := a) (b := b) (n := n) (fun k hk => h k (Nat.lt_succ_of_lt hk))
    have h2 := h n (Nat.lt_succ_self n)
    rw [pcn, pcn]
    cases ha : a.testBit n with
    | false =>
      simp
      omega
    | true =>
      rw [h2 ha]
      simp
      omega
-- bitCount
theorem and_split {k a b m m' : Nat} (ha : a < 2 ^ k) (hm : m < 2 ^ k) : (a + 2 ^ k * b) &&& (m + 2 ^ k * m') = (a &&& m) + 2 ^ k * (b &&& m') := by
  apply Nat.eq_of_testBit_eq
  intro i
  have h3 : a &&& m < 2 ^ k := Nat.and_lt_two_pow _ hm
  rw [Nat.testBit_and, Nat.add_comm a, Nat.add_comm m, Nat.add_comm (a &&& m), Nat.testBit_two_pow_mul_add _ ha, Nat.testBit_two_pow_mul_add _ hm, Nat.testBit_two_pow_mul_add _ h3]
  split
  · rw [Nat.testBit_and]
  · rw [Nat.testBit_and]
theorem and256 {a b m m' : Nat} (ha : a < 256) (hm : m < 256) : (a + 256 * b) &&& (m + 256 * m') = (a &&& m) + 256 * (b &&& m') := and_split (k := 8) ha hm
theorem pcn_256 (b y : Nat) (hb : b < 256) : ∀ k, pcn (b + 256 * y) (8 + k) = pcn b 8 + pcn y k := by
  have tb : ∀ i, (b + 256 * y).testBit i = if i < 8 then b.testBit i else y.testBit (i - 8) := by
    intro i
    have := Nat.testBit_two_pow_mul_add (i := 8) y hb i
    rw [Nat.add_comm]
    exact this
  intro k
  induction k with
  | zero =>
    show pcn (b + 256 * y) 8 = pcn b 8 + 0
    rw [Nat.add_zero]
    apply pcn_congr
    intro i hi
    rw [tb, if_pos hi]
  | succ k ih =>
    show pcn (b + 256 * y) (8 + k) + (if (b + 256 * y).testBit (8 + k) = true then 1 else 0) = pcn b 8 + (pcn y k + (if y.testBit k = true then 1 else 0))
    have t9 := tb (8 + k)
    rw [if_neg (show ¬ 8 + k < 8 by omega), show 8 + k - 8 = k by omega] at t9
    rw [ih, t9]
    omega
def pA (b : Nat) : Nat := b - ((b / 2) &&& 85)
def pB (b : Nat) : Nat := (b &&& 51) + ((b / 4) &&& 51)
def pC (b : Nat) : Nat := (b + b / 16) &&& 15
def pop (s : Nat) : Nat :=
  let a := s - ((s / 2) &&& 1431655765)
  let b := (a &&& 858993459) + ((a / 4) &&& 858993459)
  let c := (b + b / 16) &&& 252645135
  let d := c + c / 256
  let e := d + d / 65536
  e &&& 63
theorem tA : ∀ b, b < 256 → ∀ z, z < 2 → ((b / 2 + 128 * z) &&& 85) = ((b / 2) &&& 85) ∧ ((b / 2) &&& 85) ≤ b := by decide +kernel
theorem tB : ∀ p, p < 256 → ∀ z, z < 4 → ((p / 4 + 64 * z) &&& 51) = ((p / 4) &&& 51) ∧ (p &&& 51) < 256 := by decide +kernel
theorem tC : ∀ b, b < 256 → pA b < 256 ∧ pB (pA b) ≤ 68 ∧ pB (pA b) % 16 ≤ 4 ∧ pC (pB (pA b)) = pcn b 8 ∧ pC (pB (pA b)) ≤ 8 := by decide +kernel
theorem tD : ∀ p, p < 69 → ∀ z, z < 5 → ((p + p / 16 + 16 * z) &&& 15) = ((p + p / 16) &&& 15) := by decide +kernel
theorem pop_cnt {s : Nat} (hs : s < 2 ^ 20) : pop s = cnt s := by
  obtain ⟨b0, b1, b2, h0, h1, h2, rfl⟩ : ∃ b0 b1 b2, b0 < 256 ∧ b1 < 256 ∧ b2 < 16 ∧ s = b0 + 256 * (b1 + 256 * b2) := ⟨s % 256, s / 256 % 256, s / 65536, by omega, by omega, by omega, by omega⟩
  have eA : ((b0 + 256 * (b1 + 256 * b2)) / 2) &&& 1431655765 = ((b0 / 2) &&& 85) + 256 * (((b1 / 2) &&& 85) + 256 * ((b2 / 2) &&& 85)) := by
    rw [show (b0 + 256 * (b1 + 256 * b2)) / 2 = (b0 / 2 + 128 * (b1 % 2)) + 256 * ((b1 / 2 + 128 * (b2 % 2)) + 256 * (b2 / 2 + 256 * 0)) by omega]
    rw [show (1431655765 : Nat) = 85 + 256 * (85 + 256 * (85 + 256 * 85)) by decide]
    rw [and256 (by omega) (by decide), and256 (by omega) (by decide), and256 (by omega) (by decide), (tA b0 h0 (b1 % 2) (by omega)).1, (tA b1 h1 (b2 % 2) (by omega)).1, Nat.zero_and, Nat.mul_zero, Nat.add_zero]
  have a0 := (tA b0 h0 0 (by omega)).2
  have a1 := (tA b1 h1 0 (by omega)).2
  have a2 := (tA b2 (by omega) 0 (by omega)).2
  have c0 := tC b0 h0
  have c1 := tC b1 h1
  have c2 := tC b2 (by omega)
  have e1 : (b0 + 256 * (b1 + 256 * b2)) - (((b0 + 256 * (b1 + 256 * b2)) / 2) &&& 1431655765) = pA b0 + 256 * (pA b1 + 256 * pA b2) := by
    rw [eA]
    unfold pA
    omega
  unfold pop
  dsimp only
  rw [e1]
  generalize hp0 : pA b0 = p0 at c0 ⊢
  generalize hp1 : pA b1 = p1 at c1 ⊢
  generalize hp2 : pA b2 = p2 at c2 ⊢
  have eB : ((p0 + 256 * (p1 + 256 * p2)) &&& 858993459) + (((p0 + 256 * (p1 + 256 * p2)) / 4) &&& 858993459) = pB p0 + 256 * (pB p1 + 256 * pB p2) := by
    rw [show (p0 + 256 * (p1 + 256 * p2)) / 4 = (p0 / 4 + 64 * (p1 % 4)) + 256 * ((p1 / 4 + 64 * (p2 % 4)) + 256 * (p2 / 4 + 256 * 0)) by omega]
    rw [show p0 + 256 * (p1 + 256 * p2) = p0 + 256 * (p1 + 256 * (p2 + 256 * 0)) by omega]
    rw [show (858993459 : Nat) = 51 + 256 * (51 + 256 * (51 + 256 * 51)) by decide]
    rw [and256 (by omega) (by decide), and256 (by omega) (by decide), and256 (by omega) (by decide), and256 (by omega) (by decide), and256 (by omega) (by decide), and256 (by omega) (by decide), (tB p0 (by omega) (p1 % 4) (by omega)).1, (tB p1 (by omega) (p2 % 4) (by omega)).1, Nat.zero_and]
    unfold pB
    omega
  rw [eB]
  generalize hq0 : pB p0 = q0 at c0 ⊢
  generalize hq1 : pB p1 = q1 at c1 ⊢
  generalize hq2 : pB p2 = q2 at c2 ⊢
  have eC : ((q0 + 256 * (q1 + 256 * q2)) + (q0 + 256 * (q1 + 256 * q2)) / 16) &&& 252645135 = pC q0 + 256 * (pC q1 + 256 * pC q2) := by
    rw [show (q0 + 256 * (q1 + 256 * q2)) + (q0 + 256 * (q1 + 256 * q2)) / 16 = (q0 + q0 / 16 + 16 * (q1 % 16)) + 256 * ((q1 + q1 / 16 + 16 * (q2 % 16)) + 256 * (q2 + q2 / 16 + 256 * 0)) by omega]
    rw [show (252645135 : Nat) = 15 + 256 * (15 + 256 * (15 + 256 * 15)) by decide]
    rw [and256 (by omega) (by decide), and256 (by omega) (by decide), and256 (by omega) (by decide), tD q0 (by omega) (q1 % 16) (by omega), tD q1 (by omega) (q2 % 16) (by omega), Nat.zero_and]
    unfold pC
    omega
  rw [eC]
  have r0 := c0.2.2.2
  have r1 := c1.2.2.2
  have r2 := c2.2.2.2
  generalize pC q0 = z0 at r0 ⊢
  generalize pC q1 = z1 at r1 ⊢
  generalize pC q2 = z2 at r2 ⊢
  have hz : (z0 + 256 * (z1 + 256 * z2)) + (z0 + 256 * (z1 + 256 * z2)) / 256 + ((z0 + 256 * (z1 + 256 * z2)) + (z0 + 256 * (z1 + 256 * z2)) / 256) / 65536 = (z0 + z1 + z2) + 256 * (z1 + z2 + 256 * z2) := by omega
  rw [hz]
  have h63 : ∀ x : Nat, x &&& 63 = x % 64 := fun x => Nat.and_two_pow_sub_one_eq_mod x 6
  rw [h63]
  have hc : cnt (b0 + 256 * (b1 + 256 * b2)) = pcn b0 8 + (pcn b1 8 + pcn b2 4) := by
    have e5 := pcn_256 b0 (b1 + 256 * b2) h0 12
    have e6 := pcn_256 b1 b2 h1 4
    rw [show (12 : Nat) = 8 + 4 by rfl, e6] at e5
    exact e5
  have h24 : pcn b2 8 = pcn b2 4 := pcn_up (s := b2) (m := 4) h2 4
  rw [hc, ← h24, ← r0.1, ← r1.1, ← r2.1]
  omega
section JB
variable {g : GT} {d ca sa : Nat} {M : MT} {pc : Nat} {lv lv' : List (Nat × Value)} {st : List Value} {h : MH} {Q Q' : RT → MH → Prop}
theorem J_iushrN {a k n : Nat} (hd : decode M.2.1 pc = .ok (.iushr, 1)) (ha : a < 2 ^ 32) (hs : (((nI n).toUInt32 &&& Int32.toUInt32 31).toBitVec % 32).toNat = k) (kk : J g d ca sa M (pc + 1) lv (.int (nI (a / 2 ^ k)) :: st) h Q) : J g d ca sa M pc lv (.int (nI n) :: .int (nI a) :: st) h Q := J_iushr hd (by rw [pk_ushrN ha (nI n) k hs]; exact kk)
end JB
