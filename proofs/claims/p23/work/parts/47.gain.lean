-- what cuts gain: the best one gains the most
theorem cnt_z : cnt 0 = 0 := by decide +kernel
theorem sqs_z (β : BT) : sqs β 0 = 0 := by
  unfold sqs ofS
  rw [Nat.zero_and, Nat.zero_and, Nat.zero_and, cnt_z]
theorem gA_z (β : BT) (X : Nat) : gA β X 0 = 0 := by
  unfold gA
  rw [sqs_z, cnt_z, Nat.zero_mul, Nat.zero_mul, Nat.mul_zero, Nat.mul_zero, Nat.zero_mul, Nat.zero_mul]
theorem gA_h {β : BT} {X low : Nat} (h : sdf X low = 0) : gA β X low = 0 := by
  unfold gA
  rw [h, sqs_z, cnt_z, Nat.mul_zero, Nat.zero_mul, Nat.zero_mul, Nat.zero_mul, Nat.mul_zero]
theorem sdf_self (X : Nat) : sdf X X = 0 := by
  apply Nat.eq_of_testBit_eq
  intro k
  rw [sdf_bit, Nat.zero_testBit]
  cases X.testBit k <;> rfl
/-- t is as good as the cut with these low ones -/
def Dm (β : BT) (X : Nat) (t : Option Nat × Nat × Nat) (low : Nat) : Prop := gA β X low * t.2.2 ≤ t.2.1 * gB X low
def Ivt (β : BT) (X : Nat) (t : Option Nat × Nat × Nat) : Prop := 0 < t.2.2 ∧ ((t.1 = none ∧ t.2.1 = 0 ∧ t.2.2 = 1) ∨ ∃ c, t.1 = some c ∧ t.2.1 = gA β X (X &&& mkC β c) ∧ t.2.2 = gB X (X &&& mkC β c))
theorem gB_pos {X low : Nat} (h1 : 1 ≤ cnt low) (h2 : 1 ≤ cnt (sdf X low)) (h3 : cnt low + cnt (sdf X low) = cnt X) : 0 < gB X low := by
  unfold gB
  exact Nat.mul_pos (Nat.mul_pos (by omega) h1) h2
theorem mkC_eq {β : BT} {m x : Nat} (hx : x < 51) : mkC β (m * 51 + x) = mkL β m x := by
  unfold mkC
  rw [show (m * 51 + x) / 51 = m by omega, show (m * 51 + x) % 51 = x by omega]
/-- fractions: better than what is better -/
theorem fr_tr {A B a b p q : Nat} (hq : 0 < q) (h1 : A * q ≤ p * B) (h2 : p * b < a * q) : A * b ≤ a * B := by
  apply Nat.le_of_mul_le_mul_right _ hq
  calc A * b * q = A * q * b := by rw [Nat.mul_assoc, Nat.mul_comm b q, Nat.mul_assoc]
    _ ≤ p * B * b := Nat.mul_le_mul_right b h1
    _ = p * b * B := by rw [Nat.mul_assoc, Nat.mul_comm B b, Nat.mul_assoc]
    _ ≤ a * q * B := Nat.mul_le_mul_right B (Nat.le_of_lt h2)
    _ = a * B * q := by rw [Nat.mul_assoc, Nat.mul_comm q B, Nat.mul_assoc]
theorem low_cnt (X : Nat) (β : BT) (m x : Nat) : cnt (X &&& mkL β m x) + cnt (sdf X (X &&& mkL β m x)) = cnt X := by
  have h : sdf X (X &&& mkL β m x) = sdf X (mkL β m x) := by
    apply Nat.eq_of_testBit_eq
    intro k
    rw [sdf_bit, sdf_bit, Nat.testBit_and]
    cases X.testBit k <;> cases (mkL β m x).testBit k <;> rfl
  rw [h]
  exact cnt_split X (mkL β m x)
theorem Ivt_step {β : BT} {X m x : Nat} {t : Option Nat × Nat × Nat} (hx : x < 51) (h : Ivt β X t) : Ivt β X (stepS β X 1 m x t) := by
  unfold stepS
  split
  · rename_i q
    obtain ⟨_, q2, q3⟩ := q
    rw [Bool.and_eq_true, decide_eq_true_eq, decide_eq_true_eq] at q2
    refine ⟨gB_pos q2.1 q2.2 (low_cnt X β m x), Or.inr ⟨m * 51 + x, rfl, ?_, ?_⟩⟩
    · rw [mkC_eq hx]
    · rw [mkC_eq hx]
  · exact h
theorem Dm_step {β : BT} {X m x low : Nat} {t : Option Nat × Nat × Nat} (h : Ivt β X t) (hd : Dm β X t low) : Dm β X (stepS β X 1 m x t) low := by
  unfold stepS
  split
  · rename_i q
    exact fr_tr h.1 hd q.2.2
  · exact hd
theorem Dm_own {β : BT} {X m x : Nat} {t : Option Nat × Nat × Nat} (hX : X < 2 ^ 20) (hp : Dm β X t (prevS β X m x)) : Dm β X (stepS β X 1 m x t) (X &&& mkL β m x) := by
  have hlow : X &&& mkL β m x < 2 ^ 20 := Nat.lt_of_le_of_lt Nat.and_le_left hX
  have hhigh : sdf X (X &&& mkL β m x) < 2 ^ 20 := Nat.lt_of_le_of_lt (sdf_le _ _) hX
  unfold stepS
  split
  · exact Nat.le_refl _
  · rename_i q
    by_cases e : (X &&& mkL β m x) = prevS β X m x
    · rw [e]
      exact hp
    · by_cases e1 : cnt (X &&& mkL β m x) = 0
      · show gA β X (X &&& mkL β m x) * _ ≤ _
        rw [(cnt_0 hlow).mp e1, gA_z, Nat.zero_mul]
        exact Nat.zero_le _
      · by_cases e2 : cnt (sdf X (X &&& mkL β m x)) = 0
        · show gA β X (X &&& mkL β m x) * _ ≤ _
          rw [gA_h ((cnt_0 hhigh).mp e2), Nat.zero_mul]
          exact Nat.zero_le _
        · apply Nat.le_of_not_lt
          intro e3
          refine q ⟨e, ?_, e3⟩
          rw [Bool.and_eq_true, decide_eq_true_eq, decide_eq_true_eq]
          omega
theorem Dm_sc {β : BT} {X m : Nat} (hX : X < 2 ^ 20) : ∀ (k x : Nat) (t : Option Nat × Nat × Nat), x + k ≤ 50 → Ivt β X t → Dm β X t (prevS β X m x) → Ivt β X (scF β X 1 m k x t) ∧ (∀ low, Dm β X t low → Dm β X (scF β X 1 m k x t) low) ∧ ∀ y, x ≤ y → y < x + k → Dm β X (scF β X 1 m k x t) (X &&& mkL β m y)
  | 0, x, t, _, h, _ => ⟨h, fun _ q => q, fun y h1 h2 => by omega⟩
  | k + 1, x, t, hk, h, hp => by
    have i1 := Ivt_step (m := m) (x := x) (by omega) h
    have d1 := Dm_own hX hp
    obtain ⟨a1, a2, a3⟩ := Dm_sc hX k (x + 1) (stepS β X 1 m x t) (by omega) i1 d1
    refine ⟨a1, fun low q => a2 low (Dm_step h q), fun y h1 h2 => ?_⟩
    by_cases e : y = x
    · subst e
      exact a2 _ d1
    · exact a3 y (by omega) (by omega)
theorem Dm_z {β : BT} {X : Nat} (t : Option Nat × Nat × Nat) : Dm β X t 0 := by
  unfold Dm
  rw [gA_z, Nat.zero_mul]
  exact Nat.zero_le _
theorem Dm_so {β : BT} {X : Nat} (hX : X < 2 ^ 20) : ∀ (k m : Nat) (t : Option Nat × Nat × Nat), m + k ≤ 3 → Ivt β X t → Ivt β X (soF β X 1 k m t) ∧ (∀ low, Dm β X t low → Dm β X (soF β X 1 k m t) low) ∧ ∀ n y, m ≤ n → n < m + k → y < 50 → Dm β X (soF β X 1 k m t) (X &&& mkL β n y)
  | 0, m, t, _, h => ⟨h, fun _ q => q, fun n y h1 h2 => by omega⟩
  | k + 1, m, t, hk, h => by
    obtain ⟨b1, b2, b3⟩ := Dm_sc (m := m) hX 50 0 t (by omega) h (Dm_z t)
    obtain ⟨a1, a2, a3⟩ := Dm_so hX k (m + 1) (scF β X 1 m 50 0 t) (by omega) b1
    refine ⟨a1, fun low q => a2 low (b2 low q), fun n y h1 h2 h3 => ?_⟩
    by_cases e : n = m
    · subst e
      exact a2 _ (b3 y (by omega) (by omega))
    · exact a3 n y (by omega) (by omega) h3
theorem mkL_50 {β : BT} (hW : WF β) (m : Nat) : gro β &&& mkL β m 50 = gro β := by
  apply Nat.eq_of_testBit_eq
  intro k
  rw [Nat.testBit_and, gro_bit, mkL, msk_bit]
  by_cases hk : k < β.1
  · have := hW.2.2.1 m k hk
    simp [hk, this]
  · simp [hk]
/-- with the least number 1 no cut gains more than the best one; it gains nothing where there is none -/
theorem best_dom {β : BT} (hW : WF β) {m x : Nat} (hm : m < 3) (hx : x ≤ 50) :
    (bestS β (gro β) 1 = none ∧ gA β (gro β) (gro β &&& mkL β m x) = 0) ∨ ∃ c, bestS β (gro β) 1 = some c ∧ gA β (gro β) (gro β &&& mkL β m x) * gB (gro β) (gro β &&& mkC β c) ≤ gA β (gro β) (gro β &&& mkC β c) * gB (gro β) (gro β &&& mkL β m x) := by
  have hX := gro_lt hW
  obtain ⟨⟨a0, a1⟩, a2, a3⟩ := Dm_so (β := β) hX 3 0 (none, 0, 1) (by omega) ⟨Nat.one_pos, Or.inl ⟨rfl, rfl, rfl⟩⟩
  have hd : Dm β (gro β) (soF β (gro β) 1 3 0 (none, 0, 1)) (gro β &&& mkL β m x) := by
    by_cases e : x < 50
    · exact a3 m x (Nat.zero_le _) (by omega) e
    · have e2 : x = 50 := by omega
      unfold Dm
      rw [e2, mkL_50 hW, gA_h (sdf_self _), Nat.zero_mul]
      exact Nat.zero_le _
  unfold Dm at hd
  rcases a1 with ⟨b1, b2, b3⟩ | ⟨c, b1, b2, b3⟩
  · rw [b2, b3, Nat.mul_one, Nat.zero_mul] at hd
    exact Or.inl ⟨b1, Nat.le_zero.mp hd⟩
  · rw [b2, b3] at hd
    exact Or.inr ⟨c, b1, hd⟩
theorem gn_0 {β : BT} {m x : Nat} (h : gA β (gro β) (gro β &&& mkL β m x) = 0) (w : Nat) : gnS β m x w = w := by
  unfold gnS
  rw [if_pos h]
theorem gn_p {β : BT} {m x : Nat} (h : gA β (gro β) (gro β &&& mkL β m x) ≠ 0) : ∃ g a b, 0 < g ∧ gA β (gro β) (gro β &&& mkL β m x) = g * a ∧ gB (gro β) (gro β &&& mkL β m x) = g * b ∧ gnS β m x 0 = a ∧ gnS β m x 1 = b := by
  have hg : 0 < Nat.gcd (gA β (gro β) (gro β &&& mkL β m x)) (gB (gro β) (gro β &&& mkL β m x)) := Nat.gcd_pos_of_pos_left _ (Nat.pos_of_ne_zero h)
  obtain ⟨a, ha⟩ := Nat.gcd_dvd_left (gA β (gro β) (gro β &&& mkL β m x)) (gB (gro β) (gro β &&& mkL β m x))
  obtain ⟨b, hb⟩ := Nat.gcd_dvd_right (gA β (gro β) (gro β &&& mkL β m x)) (gB (gro β) (gro β &&& mkL β m x))
  refine ⟨_, a, b, hg, ha, hb, ?_, ?_⟩
  · unfold gnS
    dsimp only
    rw [if_neg h, if_pos rfl, Nat.max_eq_right hg]
    exact Nat.div_eq_of_eq_mul_right hg ha
  · unfold gnS
    dsimp only
    rw [if_neg h, if_neg (by decide), Nat.max_eq_right hg]
    exact Nat.div_eq_of_eq_mul_right hg hb
theorem gn_le {β : BT} {m x w : Nat} (hw : w ≤ 1) : gnS β m x w ≤ 960000 := by
  have h1 := gA_le β (gro β) (gro β &&& mkL β m x)
  have h2 := gB_le (gro β) (gro β &&& mkL β m x)
  unfold gnS
  dsimp only
  split
  · omega
  · refine Nat.le_trans (Nat.div_le_self _ _) ?_
    split <;> omega
theorem best_gn {β : BT} {le c : Nat} (h : bestS β (gro β) le = some c) : c / 51 < 3 ∧ c % 51 ≤ 50 ∧ gA β (gro β) (gro β &&& mkL β (c / 51) (c % 51)) ≠ 0 := by
  obtain ⟨p1, p2, _, _, p5⟩ := best_P h
  have p5' : 0 < gA β (gro β) (gro β &&& mkL β (c / 51) (c % 51)) := p5
  refine ⟨by omega, by omega, by omega⟩
theorem best_pos {β : BT} {le c : Nat} (h : bestS β (gro β) le = some c) : 0 < gnS β (c / 51) (c % 51) 0 := by
  obtain ⟨_, _, h3⟩ := best_gn h
  obtain ⟨g, a, b, hg, e1, e2, e3, e4⟩ := gn_p h3
  rw [e3]
  rcases Nat.eq_zero_or_pos a with z | z
  · rw [z, Nat.mul_zero] at e1
    exact absurd e1 h3
  · exact z
theorem best_most {β : BT} (hW : WF β) {m x : Nat} (hm : m < 3) (hx : x ≤ 50) :
    (bestS β (gro β) 1 = none → gnS β m x 0 = 0) ∧ ∀ c, bestS β (gro β) 1 = some c → gnS β m x 0 * gnS β (c / 51) (c % 51) 1 ≤ gnS β (c / 51) (c % 51) 0 * gnS β m x 1 := by
  rcases best_dom hW hm hx with ⟨h1, h2⟩ | ⟨c, h1, h2⟩
  · exact ⟨fun _ => gn_0 h2 0, fun c hc => by rw [h1] at hc; cases hc⟩
  · refine ⟨fun q => (by rw [h1] at q; cases q), fun c' hc => ?_⟩
    rw [h1] at hc
    cases hc
    obtain ⟨_, _, h3⟩ := best_gn h1
    obtain ⟨g', a', b', hg', f1, f2, f3, f4⟩ := gn_p h3
    by_cases e : gA β (gro β) (gro β &&& mkL β m x) = 0
    · rw [gn_0 e 0, Nat.zero_mul]
      exact Nat.zero_le _
    · obtain ⟨g, a, b, hg, e1, e2, e3, e4⟩ := gn_p e
      have h2' : gA β (gro β) (gro β &&& mkL β m x) * gB (gro β) (gro β &&& mkL β (c / 51) (c % 51)) ≤ gA β (gro β) (gro β &&& mkL β (c / 51) (c % 51)) * gB (gro β) (gro β &&& mkL β m x) := h2
      rw [e1, e2, f1, f2] at h2'
      rw [e3, e4, f3, f4]
      apply Nat.le_of_mul_le_mul_left _ (Nat.mul_pos hg hg')
      calc g * g' * (a * b') = g * a * (g' * b') := by ac_rfl
        _ ≤ g' * a' * (g * b) := h2'
        _ = g * g' * (a' * b) := by ac_rfl
