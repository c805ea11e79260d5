-- class and reference answer alike, call by call
def PAIR (g : GT) (M1 M2 : MT) (args : List Value) (km : Nat) (E1 E2 : String) (σ : ST) : Prop := ∃ (k : Nat) (x y : Int32) (σ' : ST), k ≤ km ∧ (k ≠ 0 → σ' = σ) ∧ (k = 0 → x = y) ∧ (∀ d h, GH h σ → J g (d + 60) 1 6 M1 0 (lv_args 0 (.ref 1 :: args)) [] h (CO h k (.int x) σ' E1 E2)) ∧ (∀ d h th, MQs h σ th → J g (d + 60) 1110 7000 M2 0 (lv_args 0 (.ref 53 :: args)) [] h (RMo (.int y) h σ' (nI k)))
section
variable {g : GT} {D pc : Nat} {M : MT} {lv : List (Nat × Value)} {st : List Value} {h : MH} {σ σ' : ST} {π : Nat → Nat} {E1 E2 : String}
theorem cx_i {x : Int32} (hj : J g D 0 0 M pc lv st h (RI x h)) (hG : GP h σ π) : J g D 1 6 M pc lv st h (CO h 0 (.int x) σ E1 E2) := J_bud (Nat.zero_le _) (Nat.zero_le _) (J_mono (fun r h' q => Or.inl ⟨rfl, q.1, by rw [q.2]; exact Fr_rfl, π, by rw [q.2]; exact hG⟩) hj)
theorem cx_h {x : Int32} (hj : J g D 0 0 M pc lv st h (RH x (fun h' => Fr 1 52 h h' ∧ GP h' σ' π))) : J g D 1 6 M pc lv st h (CO h 0 (.int x) σ' E1 E2) := J_bud (Nat.zero_le _) (Nat.zero_le _) (J_mono (fun r h' q => Or.inl ⟨rfl, q.1, q.2.1, π, q.2.2⟩) hj)
theorem cx_p {x : Int32} {π' : Nat → Nat} (hj : J g D 0 0 M pc lv st h (RH x (fun h' => Fr 1 52 h h' ∧ GP h' σ' π'))) : J g D 1 6 M pc lv st h (CO h 0 (.int x) σ' E1 E2) := cx_h hj
theorem cx_1 {v : Value} (hj : J g D 1 6 M pc lv st h (RX E1 h)) : J g D 1 6 M pc lv st h (CO h 1 v σ' E1 E2) := J_mono (fun r h' q => Or.inr (Or.inl ⟨rfl, q.1, q.2.1, q.2.2⟩)) hj
theorem cx_2 {v : Value} (hj : J g D 1 6 M pc lv st h (RX E2 h)) : J g D 1 6 M pc lv st h (CO h 2 v σ' E1 E2) := J_mono (fun r h' q => Or.inr (Or.inr ⟨rfl, q.1, q.2.1, q.2.2⟩)) hj
end
theorem tr_n {x : Int32} {K : Nat} (h : 0 ≤ x.toInt ∧ x.toInt < (K : Int)) : ∃ j : Nat, x = nI j ∧ j < K := by
  have h0 : ¬ x < 0 := by
    rw [Int32.lt_iff_toInt_lt, z32]
    omega
  obtain ⟨j, hj, rfl⟩ := nI_of h0
  rw [nI_toInt hj] at h
  exact ⟨j, rfl, by omega⟩

set_option maxHeartbeats 2000000 in
set_option maxRecDepth 20000 in
theorem pair_bean {g : GT} {σ : ST} (hW : WF σ.1) (ok : okS σ) (a b c s : Int32) : PAIR g mX2_bean mX3_bean [.int a, .int b, .int c, .int s] 2 "java/lang/IllegalArgumentException" "java/lang/IllegalStateException" σ := by
  have hc1 := cnt_le (gro σ.1)
  have hc2 := cnt_le σ.1.2.1
  obtain ⟨o1, o2, o3, o4⟩ := id ok
  by_cases hm : inM a b c
  · by_cases hs : inZ 0 2 s
    · by_cases hk : σ.1.1 < 20
      · obtain ⟨a, rfl, _, ha, _⟩ := inZ_n (hi := 50) hm.1 (by decide)
        obtain ⟨b, rfl, _, hb, _⟩ := inZ_n (hi := 50) hm.2.1 (by decide)
        obtain ⟨c, rfl, _, hc, _⟩ := inZ_n (hi := 50) hm.2.2 (by decide)
        obtain ⟨s, rfl, _, hs, _⟩ := inZ_n (hi := 2) hs (by decide)
        refine ⟨0, nI σ.1.1, nI σ.1.1, (addB σ.1 a b c s, σ.2), by decide, fun q => absurd rfl q, fun _ => rfl, fun d h hG => ?_, fun d h th hq => ?_⟩
        · obtain ⟨π, hG⟩ := hG
          exact cx_h (c_bean (d := d + 58) hG hk ha hb hc hs)
        · obtain ⟨ρ, hP⟩ := hq
          exact J_bud (by omega) (by omega) (m_bean (dd := d + 58) hP hk ha hb hc hs)
      · refine ⟨2, 0, nI 0, σ, by decide, fun _ => rfl, fun q => absurd q (by decide), fun d h hG => ?_, fun d h th hq => ?_⟩
        · obtain ⟨π, hG⟩ := hG
          exact cx_2 (c_beanX3 (d := d + 58) hG hm hs (by omega))
        · obtain ⟨ρ, hP⟩ := hq
          exact J_bud (by omega) (by omega) (m_beanX3 (dd := d + 58) hP hm hs (by omega))
    · refine ⟨1, 0, nI 0, σ, by decide, fun _ => rfl, fun q => absurd q (by decide), fun d h hG => ?_, fun d h th hq => ?_⟩
      · obtain ⟨π, hG⟩ := hG
        exact cx_1 (c_beanX2 (d := d + 58) hG hm hs)
      · obtain ⟨ρ, hP⟩ := hq
        exact J_bud (by omega) (by omega) (m_beanX2 (dd := d + 58) hP hm hs)
  · refine ⟨1, 0, nI 0, σ, by decide, fun _ => rfl, fun q => absurd q (by decide), fun d h hG => ?_, fun d h th hq => ?_⟩
    · obtain ⟨π, hG⟩ := hG
      exact cx_1 (c_beanX1 (d := d + 58) hG hm)
    · obtain ⟨ρ, hP⟩ := hq
      exact J_bud (by omega) (by omega) (m_beanX1 (dd := d + 58) hP hm)

set_option maxHeartbeats 2000000 in
set_option maxRecDepth 20000 in
theorem pair_setSort {g : GT} {σ : ST} (hW : WF σ.1) (ok : okS σ) (x s : Int32) : PAIR g mX2_setSort mX3_setSort [.int x, .int s] 2 "java/lang/IndexOutOfBoundsException" "java/lang/IllegalArgumentException" σ := by
  have hc1 := cnt_le (gro σ.1)
  have hc2 := cnt_le σ.1.2.1
  obtain ⟨o1, o2, o3, o4⟩ := id ok
  by_cases hx : 0 ≤ x.toInt ∧ x.toInt < (σ.1.1 : Int)
  · obtain ⟨k, rfl, hk⟩ := tr_n hx
    by_cases hs : inZ 0 2 s
    · obtain ⟨s, rfl, _, hs, _⟩ := inZ_n (hi := 2) hs (by decide)
      refine ⟨0, nI (σ.1.2.2.2 k), nI (σ.1.2.2.2 k), (sortB σ.1 k s, σ.2), by decide, fun q => absurd rfl q, fun _ => rfl, fun d h hG => ?_, fun d h th hq => ?_⟩
      · obtain ⟨π, hG⟩ := hG
        exact cx_h (c_setSort (d := d + 58) hG hk hs)
      · obtain ⟨ρ, hP⟩ := hq
        exact J_bud (by omega) (by omega) (m_setSort (dd := d + 59) hP hk hs)
    · refine ⟨2, 0, nI 0, σ, by decide, fun _ => rfl, fun q => absurd q (by decide), fun d h hG => ?_, fun d h th hq => ?_⟩
      · obtain ⟨π, hG⟩ := hG
        exact cx_2 (c_setSortX2 (d := d + 58) hG hk hs)
      · obtain ⟨ρ, hP⟩ := hq
        exact J_bud (by omega) (by omega) (m_setSortX2 (dd := d + 59) hP hk hs)
  · refine ⟨1, 0, nI 0, σ, by decide, fun _ => rfl, fun q => absurd q (by decide), fun d h hG => ?_, fun d h th hq => ?_⟩
    · obtain ⟨π, hG⟩ := hG
      exact cx_1 (c_setSortX1 (d := d + 58) hG hx)
    · obtain ⟨ρ, hP⟩ := hq
      exact J_bud (by omega) (by omega) (m_setSortX1 (dd := d + 59) hP hx)

set_option maxHeartbeats 2000000 in
set_option maxRecDepth 20000 in
theorem pair_setDepth {g : GT} {σ : ST} (hW : WF σ.1) (ok : okS σ) (x : Int32) : PAIR g mX2_setDepth mX3_setDepth [.int x] 1 "java/lang/IllegalArgumentException" "none" σ := by
  have hc1 := cnt_le (gro σ.1)
  have hc2 := cnt_le σ.1.2.1
  obtain ⟨o1, o2, o3, o4⟩ := id ok
  by_cases hx : inZ 1 5 x
  · obtain ⟨m, rfl, hm1, hm, _⟩ := inZ_n (hi := 5) hx (by decide)
    refine ⟨0, nI σ.2.1.2.1, nI σ.2.1.2.1, (σ.1, (σ.2.1.1, m, σ.2.1.2.2), σ.2.2), by decide, fun q => absurd rfl q, fun _ => rfl, fun d h hG => ?_, fun d h th hq => ?_⟩
    · obtain ⟨π, hG⟩ := hG
      exact cx_h (c_setDepth (d := d + 59) hG (by omega) hm)
    · obtain ⟨ρ, hP⟩ := hq
      exact J_bud (by omega) (by omega) (m_setDepth (dd := d + 59) hP (by omega) hm)
  · refine ⟨1, 0, nI 0, σ, by decide, fun _ => rfl, fun q => absurd q (by decide), fun d h hG => ?_, fun d h th hq => ?_⟩
    · obtain ⟨π, hG⟩ := hG
      exact cx_1 (c_setDepthX1 (d := d + 59) hG hx)
    · obtain ⟨ρ, hP⟩ := hq
      exact J_bud (by omega) (by omega) (m_setDepthX1 (dd := d + 59) hP hx)

set_option maxHeartbeats 2000000 in
set_option maxRecDepth 20000 in
theorem pair_setLeast {g : GT} {σ : ST} (hW : WF σ.1) (ok : okS σ) (x : Int32) : PAIR g mX2_setLeast mX3_setLeast [.int x] 1 "java/lang/IllegalArgumentException" "none" σ := by
  have hc1 := cnt_le (gro σ.1)
  have hc2 := cnt_le σ.1.2.1
  obtain ⟨o1, o2, o3, o4⟩ := id ok
  by_cases hx : inZ 1 6 x
  · obtain ⟨m, rfl, hm1, hm, _⟩ := inZ_n (hi := 6) hx (by decide)
    refine ⟨0, nI σ.2.1.2.2, nI σ.2.1.2.2, (σ.1, (σ.2.1.1, σ.2.1.2.1, m), σ.2.2), by decide, fun q => absurd rfl q, fun _ => rfl, fun d h hG => ?_, fun d h th hq => ?_⟩
    · obtain ⟨π, hG⟩ := hG
      exact cx_h (c_setLeast (d := d + 59) hG (by omega) hm)
    · obtain ⟨ρ, hP⟩ := hq
      exact J_bud (by omega) (by omega) (m_setLeast (dd := d + 59) hP (by omega) hm)
  · refine ⟨1, 0, nI 0, σ, by decide, fun _ => rfl, fun q => absurd q (by decide), fun d h hG => ?_, fun d h th hq => ?_⟩
    · obtain ⟨π, hG⟩ := hG
      exact cx_1 (c_setLeastX1 (d := d + 59) hG hx)
    · obtain ⟨ρ, hP⟩ := hq
      exact J_bud (by omega) (by omega) (m_setLeastX1 (dd := d + 59) hP hx)

set_option maxHeartbeats 2000000 in
set_option maxRecDepth 20000 in
theorem pair_plant {g : GT} {σ : ST} (hW : WF σ.1) (ok : okS σ) (p L : Int32) : PAIR g mX2_plant mX3_plant [.int p, .int L] 2 "java/lang/IllegalArgumentException" "java/lang/IllegalStateException" σ := by
  have hc1 := cnt_le (gro σ.1)
  have hc2 := cnt_le σ.1.2.1
  obtain ⟨o1, o2, o3, o4⟩ := id ok
  by_cases hp : inZ 1 5 p
  · obtain ⟨P, rfl, hP1, hP5, _⟩ := inZ_n (hi := 5) hp (by decide)
    by_cases hL : -1 ≤ L.toInt ∧ L.toInt < (P : Int)
    · by_cases hk : σ.2.1.1 < 5
      · by_cases hg0 : gbS σ.1 P L = 0
        · refine ⟨2, 0, nI 0, σ, by decide, fun _ => rfl, fun q => absurd q (by decide), fun d h hG => ?_, fun d h th hq => ?_⟩
          · obtain ⟨π, hG⟩ := hG
            exact cx_2 (c_plantX4 (d := d + 54) hG (by omega) hP5 hL.1 hL.2 hk hg0)
          · obtain ⟨ρ, hP⟩ := hq
            exact J_bud (by omega) (by omega) (m_plantX4 (dd := d + 48) hP (by omega) hP5 hL.1 hL.2 hk hg0)
        · have hnb := cnt_le (gbS σ.1 P L)
          have hml : cnt (gbS σ.1 P L) * σ.2.1.2.1 ≤ 20 * 5 := Nat.mul_le_mul hnb o2.2
          refine ⟨0, nI σ.2.1.1, nI σ.2.1.1, (σ.1, (σ.2.1.1 + 1, σ.2.1.2.1, σ.2.1.2.2), va_up σ.2.2.1 σ.2.1.1 (grT σ.1 σ.2.1.2.2 5 σ.2.1.2.1 (gbS σ.1 P L)), va_up σ.2.2.2.1 σ.2.1.1 (nI P), va_up σ.2.2.2.2 σ.2.1.1 L), by decide, fun q => absurd rfl q, fun _ => rfl, fun d h hG => ?_, fun d h th hq => ?_⟩
          · obtain ⟨π, hG⟩ := hG
            exact cx_h (c_plant (d := d + 54) hG (by omega) hP5 hL.1 hL.2 hk hg0)
          · obtain ⟨ρ, hP⟩ := hq
            exact J_bud (by omega) (by omega) (m_plant (dd := d + 48) hP (by omega) hP5 hL.1 hL.2 hk hg0)
      · refine ⟨2, 0, nI 0, σ, by decide, fun _ => rfl, fun q => absurd q (by decide), fun d h hG => ?_, fun d h th hq => ?_⟩
        · obtain ⟨π, hG⟩ := hG
          exact cx_2 (c_plantX3 (d := d + 54) hG (by omega) hP5 hL.1 hL.2 (by omega))
        · obtain ⟨ρ, hP⟩ := hq
          exact J_bud (by omega) (by omega) (m_plantX3 (dd := d + 48) hP (by omega) hP5 hL.1 hL.2 (by omega))
    · refine ⟨1, 0, nI 0, σ, by decide, fun _ => rfl, fun q => absurd q (by decide), fun d h hG => ?_, fun d h th hq => ?_⟩
      · obtain ⟨π, hG⟩ := hG
        exact cx_1 (c_plantX2 (d := d + 54) hG (by omega) hP5 hL)
      · obtain ⟨ρ, hP⟩ := hq
        exact J_bud (by omega) (by omega) (m_plantX2 (dd := d + 48) hP (by omega) hP5 hL)
  · refine ⟨1, 0, nI 0, σ, by decide, fun _ => rfl, fun q => absurd q (by decide), fun d h hG => ?_, fun d h th hq => ?_⟩
    · obtain ⟨π, hG⟩ := hG
      exact cx_1 (c_plantX1 (d := d + 54) hG hp)
    · obtain ⟨ρ, hP⟩ := hq
      exact J_bud (by omega) (by omega) (m_plantX1 (dd := d + 48) hP hp)

set_option maxHeartbeats 2000000 in
set_option maxRecDepth 20000 in
theorem pair_fell {g : GT} {σ : ST} (hW : WF σ.1) (ok : okS σ) (x : Int32) : PAIR g mX2_fell mX3_fell [.int x] 1 "java/lang/IndexOutOfBoundsException" "none" σ := by
  have hc1 := cnt_le (gro σ.1)
  have hc2 := cnt_le σ.1.2.1
  obtain ⟨o1, o2, o3, o4⟩ := id ok
  by_cases hx : 0 ≤ x.toInt ∧ x.toInt < (σ.2.1.1 : Int)
  · obtain ⟨j, rfl, hj⟩ := tr_n hx
    refine ⟨0, nI (σ.2.1.1 - 1), nI (σ.2.1.1 - 1), (σ.1, (σ.2.1.1 - 1, σ.2.1.2.1, σ.2.1.2.2), shl σ.2.2.1 j, shl σ.2.2.2.1 j, shl σ.2.2.2.2 j), by decide, fun q => absurd rfl q, fun _ => rfl, fun d h hG => ?_, fun d h th hq => ?_⟩
    · obtain ⟨π, hG⟩ := hG
      exact cx_h (c_fell (d := d + 59) hG hj)
    · obtain ⟨ρ, hP⟩ := hq
      exact J_bud (by omega) (by omega) (m_fell (dd := d + 58) hP hj)
  · refine ⟨1, 0, nI 0, σ, by decide, fun _ => rfl, fun q => absurd q (by decide), fun d h hG => ?_, fun d h th hq => ?_⟩
    · obtain ⟨π, hG⟩ := hG
      exact cx_1 (c_fellX1 (d := d + 59) hG hx)
    · obtain ⟨ρ, hP⟩ := hq
      exact J_bud (by omega) (by omega) (m_fellX1 (dd := d + 58) hP hx)

set_option maxHeartbeats 2000000 in
set_option maxRecDepth 20000 in
theorem pair_prune {g : GT} {σ : ST} (hW : WF σ.1) (ok : okS σ) (x : Int32) : PAIR g mX2_prune mX3_prune [.int x] 1 "java/lang/IndexOutOfBoundsException" "none" σ := by
  have hc1 := cnt_le (gro σ.1)
  have hc2 := cnt_le σ.1.2.1
  obtain ⟨o1, o2, o3, o4⟩ := id ok
  by_cases hx : 0 ≤ x.toInt ∧ x.toInt < (σ.2.1.1 : Int)
  · obtain ⟨j, rfl, hj⟩ := tr_n hx
    refine ⟨0, nI (tuP σ.1 5 (σ.2.2.1 j) σ.1.2.1), nI (tuP σ.1 5 (σ.2.2.1 j) σ.1.2.1), (σ.1, σ.2.1, va_up σ.2.2.1 j (prT σ.1 5 (σ.2.2.1 j) σ.1.2.1), σ.2.2.2), by decide, fun q => absurd rfl q, fun _ => rfl, fun d h hG => ?_, fun d h th hq => ?_⟩
    · obtain ⟨π, hG⟩ := hG
      exact cx_h (c_prune (d := d + 57) hG hj)
    · obtain ⟨ρ, hP⟩ := hq
      exact J_bud (by omega) (by omega) (m_prune (dd := d + 51) hP hj)
  · refine ⟨1, 0, nI 0, σ, by decide, fun _ => rfl, fun q => absurd q (by decide), fun d h hG => ?_, fun d h th hq => ?_⟩
    · obtain ⟨π, hG⟩ := hG
      exact cx_1 (c_pruneX1 (d := d + 57) hG hx)
    · obtain ⟨ρ, hP⟩ := hq
      exact J_bud (by omega) (by omega) (m_pruneX1 (dd := d + 51) hP hx)

set_option maxHeartbeats 2000000 in
set_option maxRecDepth 20000 in
theorem pair_node {g : GT} {σ : ST} (hW : WF σ.1) (ok : okS σ) (x p what : Int32) : PAIR g mX2_node mX3_node [.int x, .int p, .int what] 1 "java/lang/IndexOutOfBoundsException" "none" σ := by
  have hc1 := cnt_le (gro σ.1)
  have hc2 := cnt_le σ.1.2.1
  obtain ⟨o1, o2, o3, o4⟩ := id ok
  by_cases hx : 0 ≤ x.toInt ∧ x.toInt < (σ.2.1.1 : Int)
  · obtain ⟨j, rfl, hj⟩ := tr_n hx
    by_cases hp : 0 ≤ p.toInt ∧ p.toInt < (nN 5 (σ.2.2.1 j) : Int)
    · obtain ⟨p, rfl, hp9⟩ := tr_n hp
      by_cases hw : inZ 0 6 what
      · obtain ⟨q, rfl, _, hq, _⟩ := inZ_n (hi := 6) hw (by decide)
        obtain rfl | rfl | rfl | rfl | rfl | rfl | rfl : q = 0 ∨ q = 1 ∨ q = 2 ∨ q = 3 ∨ q = 4 ∨ q = 5 ∨ q = 6 := by omega
        · refine ⟨0, enc (ndS (σ.2.2.1 j) p 0), enc (ndS (σ.2.2.1 j) p 0), σ, by decide, fun q => absurd rfl q, fun _ => rfl, fun d h hG => ?_, fun d h th hq => ?_⟩
          · obtain ⟨π, hG⟩ := hG
            exact cx_i (c_node0 (d := d + 58) hG hj hp9) hG
          · obtain ⟨ρ, hP⟩ := hq
            exact J_bud (by omega) (by omega) (m_node0 (dd := d + 47) hP hj hp9)
        · refine ⟨0, enc (ndS (σ.2.2.1 j) p 1), enc (ndS (σ.2.2.1 j) p 1), σ, by decide, fun q => absurd rfl q, fun _ => rfl, fun d h hG => ?_, fun d h th hq => ?_⟩
          · obtain ⟨π, hG⟩ := hG
            exact cx_i (c_node1 (d := d + 58) hG hj hp9) hG
          · obtain ⟨ρ, hP⟩ := hq
            exact J_bud (by omega) (by omega) (m_node1 (dd := d + 47) hP hj hp9)
        · refine ⟨0, enc (ndS (σ.2.2.1 j) p 2), enc (ndS (σ.2.2.1 j) p 2), σ, by decide, fun q => absurd rfl q, fun _ => rfl, fun d h hG => ?_, fun d h th hq => ?_⟩
          · obtain ⟨π, hG⟩ := hG
            exact cx_i (c_node2 (d := d + 58) hG hj hp9) hG
          · obtain ⟨ρ, hP⟩ := hq
            exact J_bud (by omega) (by omega) (m_node2 (dd := d + 47) hP hj hp9)
        · refine ⟨0, enc (ndS (σ.2.2.1 j) p 3), enc (ndS (σ.2.2.1 j) p 3), σ, by decide, fun q => absurd rfl q, fun _ => rfl, fun d h hG => ?_, fun d h th hq => ?_⟩
          · obtain ⟨π, hG⟩ := hG
            exact cx_i (c_node3 (d := d + 58) hG hj hp9) hG
          · obtain ⟨ρ, hP⟩ := hq
            exact J_bud (by omega) (by omega) (m_node3 (dd := d + 47) hP hj hp9)
        · refine ⟨0, enc (ndS (σ.2.2.1 j) p 4), enc (ndS (σ.2.2.1 j) p 4), σ, by decide, fun q => absurd rfl q, fun _ => rfl, fun d h hG => ?_, fun d h th hq => ?_⟩
          · obtain ⟨π, hG⟩ := hG
            exact cx_i (c_node4 (d := d + 58) hG hj hp9) hG
          · obtain ⟨ρ, hP⟩ := hq
            exact J_bud (by omega) (by omega) (m_node4 (dd := d + 47) hP hj hp9)
        · refine ⟨0, enc (ndS (σ.2.2.1 j) p 5), enc (ndS (σ.2.2.1 j) p 5), σ, by decide, fun q => absurd rfl q, fun _ => rfl, fun d h hG => ?_, fun d h th hq => ?_⟩
          · obtain ⟨π, hG⟩ := hG
            exact cx_i (c_node5 (d := d + 58) hG hj hp9) hG
          · obtain ⟨ρ, hP⟩ := hq
            exact J_bud (by omega) (by omega) (m_node5 (dd := d + 47) hP hj hp9)
        · refine ⟨0, enc (ndS (σ.2.2.1 j) p 6), enc (ndS (σ.2.2.1 j) p 6), σ, by decide, fun q => absurd rfl q, fun _ => rfl, fun d h hG => ?_, fun d h th hq => ?_⟩
          · obtain ⟨π, hG⟩ := hG
            exact cx_i (c_node6 (d := d + 58) hG hj hp9) hG
          · obtain ⟨ρ, hP⟩ := hq
            exact J_bud (by omega) (by omega) (m_node6 (dd := d + 47) hP hj hp9)
      · refine ⟨1, 0, nI 0, σ, by decide, fun _ => rfl, fun q => absurd q (by decide), fun d h hG => ?_, fun d h th hq => ?_⟩
        · obtain ⟨π, hG⟩ := hG
          exact cx_1 (c_nodeX3 (d := d + 58) hG hj hp9 hw)
        · obtain ⟨ρ, hP⟩ := hq
          exact J_bud (by omega) (by omega) (m_nodeX3 (dd := d + 47) hP hj hp9 hw)
    · refine ⟨1, 0, nI 0, σ, by decide, fun _ => rfl, fun q => absurd q (by decide), fun d h hG => ?_, fun d h th hq => ?_⟩
      · obtain ⟨π, hG⟩ := hG
        exact cx_1 (c_nodeX2 (d := d + 58) hG hj hp)
      · obtain ⟨ρ, hP⟩ := hq
        exact J_bud (by omega) (by omega) (m_nodeX2 (dd := d + 47) hP hj hp)
  · refine ⟨1, 0, nI 0, σ, by decide, fun _ => rfl, fun q => absurd q (by decide), fun d h hG => ?_, fun d h th hq => ?_⟩
    · obtain ⟨π, hG⟩ := hG
      exact cx_1 (c_nodeX1 (d := d + 58) hG hx)
    · obtain ⟨ρ, hP⟩ := hq
      exact J_bud (by omega) (by omega) (m_nodeX1 (dd := d + 47) hP hx)

set_option maxHeartbeats 2000000 in
set_option maxRecDepth 20000 in
theorem pair_about {g : GT} {σ : ST} (hW : WF σ.1) (ok : okS σ) (x what : Int32) : PAIR g mX2_about mX3_about [.int x, .int what] 1 "java/lang/IndexOutOfBoundsException" "none" σ := by
  have hc1 := cnt_le (gro σ.1)
  have hc2 := cnt_le σ.1.2.1
  obtain ⟨o1, o2, o3, o4⟩ := id ok
  by_cases hx : 0 ≤ x.toInt ∧ x.toInt < (σ.2.1.1 : Int)
  · obtain ⟨j, rfl, hj⟩ := tr_n hx
    by_cases hw : inZ 0 6 what
    · obtain ⟨q, rfl, _, hq, _⟩ := inZ_n (hi := 6) hw (by decide)
      obtain rfl | rfl | rfl | rfl | rfl | rfl | rfl : q = 0 ∨ q = 1 ∨ q = 2 ∨ q = 3 ∨ q = 4 ∨ q = 5 ∨ q = 6 := by omega
      · refine ⟨0, abS σ j 0, abS σ j 0, σ, by decide, fun q => absurd rfl q, fun _ => rfl, fun d h hG => ?_, fun d h th hq => ?_⟩
        · obtain ⟨π, hG⟩ := hG
          exact cx_h (c_about0 (d := d + 57) hG hj)
        · obtain ⟨ρ, hP⟩ := hq
          exact J_bud (by omega) (by omega) (m_about0 (dd := d + 52) hP hj)
      · refine ⟨0, abS σ j 1, abS σ j 1, σ, by decide, fun q => absurd rfl q, fun _ => rfl, fun d h hG => ?_, fun d h th hq => ?_⟩
        · obtain ⟨π, hG⟩ := hG
          exact cx_h (c_about1 (d := d + 57) hG hj)
        · obtain ⟨ρ, hP⟩ := hq
          exact J_bud (by omega) (by omega) (m_about1 (dd := d + 52) hP hj)
      · refine ⟨0, abS σ j 2, abS σ j 2, σ, by decide, fun q => absurd rfl q, fun _ => rfl, fun d h hG => ?_, fun d h th hq => ?_⟩
        · obtain ⟨π, hG⟩ := hG
          exact cx_h (c_about2 (d := d + 57) hG hj)
        · obtain ⟨ρ, hP⟩ := hq
          exact J_bud (by omega) (by omega) (m_about2 (dd := d + 52) hP hj)
      · refine ⟨0, abS σ j 3, abS σ j 3, σ, by decide, fun q => absurd rfl q, fun _ => rfl, fun d h hG => ?_, fun d h th hq => ?_⟩
        · obtain ⟨π, hG⟩ := hG
          exact cx_h (c_about3 (d := d + 57) hG hj)
        · obtain ⟨ρ, hP⟩ := hq
          exact J_bud (by omega) (by omega) (m_about3 (dd := d + 52) hP hj)
      · refine ⟨0, abS σ j 4, abS σ j 4, σ, by decide, fun q => absurd rfl q, fun _ => rfl, fun d h hG => ?_, fun d h th hq => ?_⟩
        · obtain ⟨π, hG⟩ := hG
          exact cx_h (c_about4 (d := d + 57) hG hj)
        · obtain ⟨ρ, hP⟩ := hq
          exact J_bud (by omega) (by omega) (m_about4 (dd := d + 52) hP hj)
      · refine ⟨0, abS σ j 5, abS σ j 5, σ, by decide, fun q => absurd rfl q, fun _ => rfl, fun d h hG => ?_, fun d h th hq => ?_⟩
        · obtain ⟨π, hG⟩ := hG
          exact cx_h (c_about5 (d := d + 57) hG hj)
        · obtain ⟨ρ, hP⟩ := hq
          exact J_bud (by omega) (by omega) (m_about5 (dd := d + 52) hP hj)
      · refine ⟨0, abS σ j 6, abS σ j 6, σ, by decide, fun q => absurd rfl q, fun _ => rfl, fun d h hG => ?_, fun d h th hq => ?_⟩
        · obtain ⟨π, hG⟩ := hG
          exact cx_h (c_about6 (d := d + 57) hG hj)
        · obtain ⟨ρ, hP⟩ := hq
          exact J_bud (by omega) (by omega) (m_about6 (dd := d + 52) hP hj)
    · refine ⟨1, 0, nI 0, σ, by decide, fun _ => rfl, fun q => absurd q (by decide), fun d h hG => ?_, fun d h th hq => ?_⟩
      · obtain ⟨π, hG⟩ := hG
        exact cx_1 (c_aboutX2 (d := d + 57) hG hj hw)
      · obtain ⟨ρ, hP⟩ := hq
        exact J_bud (by omega) (by omega) (m_aboutX2 (dd := d + 52) hP hj hw)
  · refine ⟨1, 0, nI 0, σ, by decide, fun _ => rfl, fun q => absurd q (by decide), fun d h hG => ?_, fun d h th hq => ?_⟩
    · obtain ⟨π, hG⟩ := hG
      exact cx_1 (c_aboutX1 (d := d + 57) hG hx)
    · obtain ⟨ρ, hP⟩ := hq
      exact J_bud (by omega) (by omega) (m_aboutX1 (dd := d + 52) hP hx)

set_option maxHeartbeats 2000000 in
set_option maxRecDepth 20000 in
theorem pair_told {g : GT} {σ : ST} (hW : WF σ.1) (ok : okS σ) (x what : Int32) : PAIR g mX2_told mX3_told [.int x, .int what] 1 "java/lang/IndexOutOfBoundsException" "none" σ := by
  have hc1 := cnt_le (gro σ.1)
  have hc2 := cnt_le σ.1.2.1
  obtain ⟨o1, o2, o3, o4⟩ := id ok
  by_cases hx : 0 ≤ x.toInt ∧ x.toInt < (σ.1.1 : Int)
  · obtain ⟨k, rfl, hk⟩ := tr_n hx
    by_cases hw : inZ 0 4 what
    · obtain ⟨q, rfl, _, hq, _⟩ := inZ_n (hi := 4) hw (by decide)
      obtain rfl | rfl | rfl | rfl | rfl : q = 0 ∨ q = 1 ∨ q = 2 ∨ q = 3 ∨ q = 4 := by omega
      · refine ⟨0, nI (toS σ k 0), nI (toS σ k 0), σ, by decide, fun q => absurd rfl q, fun _ => rfl, fun d h hG => ?_, fun d h th hq => ?_⟩
        · obtain ⟨π, hG⟩ := hG
          exact cx_i (c_told0 (d := d + 58) hG hk) hG
        · obtain ⟨ρ, hP⟩ := hq
          exact J_bud (by omega) (by omega) (m_told0 (dd := d + 58) hP hk)
      · refine ⟨0, nI (toS σ k 1), nI (toS σ k 1), σ, by decide, fun q => absurd rfl q, fun _ => rfl, fun d h hG => ?_, fun d h th hq => ?_⟩
        · obtain ⟨π, hG⟩ := hG
          exact cx_i (c_told1 (d := d + 58) hG hk) hG
        · obtain ⟨ρ, hP⟩ := hq
          exact J_bud (by omega) (by omega) (m_told1 (dd := d + 58) hP hk)
      · refine ⟨0, nI (toS σ k 2), nI (toS σ k 2), σ, by decide, fun q => absurd rfl q, fun _ => rfl, fun d h hG => ?_, fun d h th hq => ?_⟩
        · obtain ⟨π, hG⟩ := hG
          exact cx_i (c_told2 (d := d + 58) hG hk) hG
        · obtain ⟨ρ, hP⟩ := hq
          exact J_bud (by omega) (by omega) (m_told2 (dd := d + 58) hP hk)
      · refine ⟨0, nI (toS σ k 3), nI (toS σ k 3), σ, by decide, fun q => absurd rfl q, fun _ => rfl, fun d h hG => ?_, fun d h th hq => ?_⟩
        · obtain ⟨π, hG⟩ := hG
          exact cx_i (c_told3 (d := d + 58) hG hk) hG
        · obtain ⟨ρ, hP⟩ := hq
          exact J_bud (by omega) (by omega) (m_told3 (dd := d + 58) hP hk)
      · refine ⟨0, nI (toS σ k 4), nI (toS σ k 4), σ, by decide, fun q => absurd rfl q, fun _ => rfl, fun d h hG => ?_, fun d h th hq => ?_⟩
        · obtain ⟨π, hG⟩ := hG
          exact cx_i (c_told4 (d := d + 58) hG hk) hG
        · obtain ⟨ρ, hP⟩ := hq
          exact J_bud (by omega) (by omega) (m_told4 (dd := d + 58) hP hk)
    · refine ⟨1, 0, nI 0, σ, by decide, fun _ => rfl, fun q => absurd q (by decide), fun d h hG => ?_, fun d h th hq => ?_⟩
      · obtain ⟨π, hG⟩ := hG
        exact cx_1 (c_toldX2 (d := d + 58) hG hk hw)
      · obtain ⟨ρ, hP⟩ := hq
        exact J_bud (by omega) (by omega) (m_toldX2 (dd := d + 58) hP hk hw)
  · refine ⟨1, 0, nI 0, σ, by decide, fun _ => rfl, fun q => absurd q (by decide), fun d h hG => ?_, fun d h th hq => ?_⟩
    · obtain ⟨π, hG⟩ := hG
      exact cx_1 (c_toldX1 (d := d + 58) hG hx)
    · obtain ⟨ρ, hP⟩ := hq
      exact J_bud (by omega) (by omega) (m_toldX1 (dd := d + 58) hP hx)

set_option maxHeartbeats 2000000 in
set_option maxRecDepth 20000 in
theorem pair_says {g : GT} {σ : ST} (hW : WF σ.1) (ok : okS σ) (x a b c : Int32) : PAIR g mX2_says mX3_says [.int x, .int a, .int b, .int c] 2 "java/lang/IndexOutOfBoundsException" "java/lang/IllegalArgumentException" σ := by
  have hc1 := cnt_le (gro σ.1)
  have hc2 := cnt_le σ.1.2.1
  obtain ⟨o1, o2, o3, o4⟩ := id ok
  by_cases hx : 0 ≤ x.toInt ∧ x.toInt < (σ.2.1.1 : Int)
  · obtain ⟨j, rfl, hj⟩ := tr_n hx
    by_cases hm : inM a b c
    · obtain ⟨a, rfl, _, ha, _⟩ := inZ_n (hi := 50) hm.1 (by decide)
      obtain ⟨b, rfl, _, hb, _⟩ := inZ_n (hi := 50) hm.2.1 (by decide)
      obtain ⟨c, rfl, _, hc, _⟩ := inZ_n (hi := 50) hm.2.2 (by decide)
      refine ⟨0, nI (saT 5 (σ.2.2.1 j) a b c), nI (saT 5 (σ.2.2.1 j) a b c), σ, by decide, fun q => absurd rfl q, fun _ => rfl, fun d h hG => ?_, fun d h th hq => ?_⟩
      · obtain ⟨π, hG⟩ := hG
        exact cx_i (c_says (d := d + 58) hG hj ha hb hc) hG
      · obtain ⟨ρ, hP⟩ := hq
        exact J_bud (by omega) (by omega) (m_says (dd := d + 57) hP hj ha hb hc)
    · refine ⟨2, 0, nI 0, σ, by decide, fun _ => rfl, fun q => absurd q (by decide), fun d h hG => ?_, fun d h th hq => ?_⟩
      · obtain ⟨π, hG⟩ := hG
        exact cx_2 (c_saysX2 (d := d + 58) hG hj hm)
      · obtain ⟨ρ, hP⟩ := hq
        exact J_bud (by omega) (by omega) (m_saysX2 (dd := d + 57) hP hj hm)
  · refine ⟨1, 0, nI 0, σ, by decide, fun _ => rfl, fun q => absurd q (by decide), fun d h hG => ?_, fun d h th hq => ?_⟩
    · obtain ⟨π, hG⟩ := hG
      exact cx_1 (c_saysX1 (d := d + 58) hG hx)
    · obtain ⟨ρ, hP⟩ := hq
      exact J_bud (by omega) (by omega) (m_saysX1 (dd := d + 57) hP hx)

set_option maxHeartbeats 2000000 in
set_option maxRecDepth 20000 in
theorem pair_vote {g : GT} {σ : ST} (hW : WF σ.1) (ok : okS σ) (a b c : Int32) : PAIR g mX2_vote mX3_vote [.int a, .int b, .int c] 1 "java/lang/IllegalArgumentException" "none" σ := by
  have hc1 := cnt_le (gro σ.1)
  have hc2 := cnt_le σ.1.2.1
  obtain ⟨o1, o2, o3, o4⟩ := id ok
  by_cases hm : inM a b c
  · obtain ⟨a, rfl, _, ha, _⟩ := inZ_n (hi := 50) hm.1 (by decide)
    obtain ⟨b, rfl, _, hb, _⟩ := inZ_n (hi := 50) hm.2.1 (by decide)
    obtain ⟨c, rfl, _, hc, _⟩ := inZ_n (hi := 50) hm.2.2 (by decide)
    refine ⟨0, enc (vS σ a b c), enc (vS σ a b c), σ, by decide, fun q => absurd rfl q, fun _ => rfl, fun d h hG => ?_, fun d h th hq => ?_⟩
    · obtain ⟨π, hG⟩ := hG
      exact cx_i (c_vote (d := d + 57) hG ha hb hc) hG
    · obtain ⟨ρ, hP⟩ := hq
      exact J_bud (by omega) (by omega) (m_vote (dd := d + 57) hP ha hb hc)
  · refine ⟨1, 0, nI 0, σ, by decide, fun _ => rfl, fun q => absurd q (by decide), fun d h hG => ?_, fun d h th hq => ?_⟩
    · obtain ⟨π, hG⟩ := hG
      exact cx_1 (c_voteX1 (d := d + 57) hG hm)
    · obtain ⟨ρ, hP⟩ := hq
      exact J_bud (by omega) (by omega) (m_voteX1 (dd := d + 57) hP hm)

set_option maxHeartbeats 2000000 in
set_option maxRecDepth 20000 in
theorem pair_count {g : GT} {σ : ST} (hW : WF σ.1) (ok : okS σ) (what : Int32) : PAIR g mX2_count mX3_count [.int what] 1 "java/lang/IndexOutOfBoundsException" "none" σ := by
  have hc1 := cnt_le (gro σ.1)
  have hc2 := cnt_le σ.1.2.1
  obtain ⟨o1, o2, o3, o4⟩ := id ok
  by_cases hw : inZ 0 6 what
  · obtain ⟨q, rfl, _, hq, _⟩ := inZ_n (hi := 6) hw (by decide)
    obtain rfl | rfl | rfl | rfl | rfl | rfl | rfl : q = 0 ∨ q = 1 ∨ q = 2 ∨ q = 3 ∨ q = 4 ∨ q = 5 ∨ q = 6 := by omega
    · refine ⟨0, nI (ctS σ 0), nI (ctS σ 0), σ, by decide, fun q => absurd rfl q, fun _ => rfl, fun d h hG => ?_, fun d h th hq => ?_⟩
      · obtain ⟨π, hG⟩ := hG
        exact cx_i (c_count0 (d := d + 56) hG) hG
      · obtain ⟨ρ, hP⟩ := hq
        exact J_bud (by omega) (by omega) (m_count0 (dd := d + 55) hP)
    · refine ⟨0, nI (ctS σ 1), nI (ctS σ 1), σ, by decide, fun q => absurd rfl q, fun _ => rfl, fun d h hG => ?_, fun d h th hq => ?_⟩
      · obtain ⟨π, hG⟩ := hG
        exact cx_i (c_count1 (d := d + 56) hG) hG
      · obtain ⟨ρ, hP⟩ := hq
        exact J_bud (by omega) (by omega) (m_count1 (dd := d + 55) hP)
    · refine ⟨0, nI (ctS σ 2), nI (ctS σ 2), σ, by decide, fun q => absurd rfl q, fun _ => rfl, fun d h hG => ?_, fun d h th hq => ?_⟩
      · obtain ⟨π, hG⟩ := hG
        exact cx_i (c_count2 (d := d + 56) hG) hG
      · obtain ⟨ρ, hP⟩ := hq
        exact J_bud (by omega) (by omega) (m_count2 (dd := d + 55) hP)
    · refine ⟨0, nI (ctS σ 3), nI (ctS σ 3), σ, by decide, fun q => absurd rfl q, fun _ => rfl, fun d h hG => ?_, fun d h th hq => ?_⟩
      · obtain ⟨π, hG⟩ := hG
        exact cx_i (c_count3 (d := d + 56) hG) hG
      · obtain ⟨ρ, hP⟩ := hq
        exact J_bud (by omega) (by omega) (m_count3 (dd := d + 55) hP)
    · refine ⟨0, nI (ctS σ 4), nI (ctS σ 4), σ, by decide, fun q => absurd rfl q, fun _ => rfl, fun d h hG => ?_, fun d h th hq => ?_⟩
      · obtain ⟨π, hG⟩ := hG
        exact cx_i (c_count4 (d := d + 56) hG) hG
      · obtain ⟨ρ, hP⟩ := hq
        exact J_bud (by omega) (by omega) (m_count4 (dd := d + 55) hP)
    · refine ⟨0, nI (ctS σ 5), nI (ctS σ 5), σ, by decide, fun q => absurd rfl q, fun _ => rfl, fun d h hG => ?_, fun d h th hq => ?_⟩
      · obtain ⟨π, hG⟩ := hG
        exact cx_i (c_count5 (d := d + 56) hG) hG
      · obtain ⟨ρ, hP⟩ := hq
        exact J_bud (by omega) (by omega) (m_count5 (dd := d + 55) hP)
    · refine ⟨0, nI (ctS σ 6), nI (ctS σ 6), σ, by decide, fun q => absurd rfl q, fun _ => rfl, fun d h hG => ?_, fun d h th hq => ?_⟩
      · obtain ⟨π, hG⟩ := hG
        exact cx_i (c_count6 (d := d + 56) hG) hG
      · obtain ⟨ρ, hP⟩ := hq
        exact J_bud (by omega) (by omega) (m_count6 (dd := d + 55) hP)
  · refine ⟨1, 0, nI 0, σ, by decide, fun _ => rfl, fun q => absurd q (by decide), fun d h hG => ?_, fun d h th hq => ?_⟩
    · obtain ⟨π, hG⟩ := hG
      exact cx_1 (c_countX1 (d := d + 56) hG hw)
    · obtain ⟨ρ, hP⟩ := hq
      exact J_bud (by omega) (by omega) (m_countX1 (dd := d + 55) hP hw)

set_option maxHeartbeats 2000000 in
set_option maxRecDepth 20000 in
theorem pair_gain {g : GT} {σ : ST} (hW : WF σ.1) (ok : okS σ) (m x what : Int32) : PAIR g mX2_gain mX3_gain [.int m, .int x, .int what] 2 "java/lang/IndexOutOfBoundsException" "java/lang/IllegalArgumentException" σ := by
  have hc1 := cnt_le (gro σ.1)
  have hc2 := cnt_le σ.1.2.1
  obtain ⟨o1, o2, o3, o4⟩ := id ok
  by_cases hm : inZ 0 2 m
  · obtain ⟨m, rfl, _, hm, _⟩ := inZ_n (hi := 2) hm (by decide)
    by_cases hw : inZ 0 1 what
    · obtain ⟨q, rfl, _, hq, _⟩ := inZ_n (hi := 1) hw (by decide)
      by_cases hx : inZ 0 50 x
      · obtain ⟨x, rfl, _, hx, _⟩ := inZ_n (hi := 50) hx (by decide)
        obtain rfl | rfl : q = 0 ∨ q = 1 := by omega
        · refine ⟨0, nI (gnS σ.1 m x 0), nI (gnS σ.1 m x 0), σ, by decide, fun q => absurd rfl q, fun _ => rfl, fun d h hG => ?_, fun d h th hq => ?_⟩
          · obtain ⟨π, hG⟩ := hG
            exact cx_i (c_gain0 (d := d + 56) hG (by omega) hx) hG
          · obtain ⟨ρ, hP⟩ := hq
            exact J_bud (by omega) (by omega) (m_gain0 (dd := d + 18) hP (by omega) hx)
        · refine ⟨0, nI (gnS σ.1 m x 1), nI (gnS σ.1 m x 1), σ, by decide, fun q => absurd rfl q, fun _ => rfl, fun d h hG => ?_, fun d h th hq => ?_⟩
          · obtain ⟨π, hG⟩ := hG
            exact cx_i (c_gain1 (d := d + 56) hG (by omega) hx) hG
          · obtain ⟨ρ, hP⟩ := hq
            exact J_bud (by omega) (by omega) (m_gain1 (dd := d + 18) hP (by omega) hx)
      · refine ⟨2, 0, nI 0, σ, by decide, fun _ => rfl, fun q => absurd q (by decide), fun d h hG => ?_, fun d h th hq => ?_⟩
        · obtain ⟨π, hG⟩ := hG
          exact cx_2 (c_gainX3 (d := d + 56) hG (by omega) hq hx)
        · obtain ⟨ρ, hP⟩ := hq
          exact J_bud (by omega) (by omega) (m_gainX3 (dd := d + 18) hP (by omega) hq hx)
    · refine ⟨1, 0, nI 0, σ, by decide, fun _ => rfl, fun q => absurd q (by decide), fun d h hG => ?_, fun d h th hq => ?_⟩
      · obtain ⟨π, hG⟩ := hG
        exact cx_1 (c_gainX2 (d := d + 56) hG (by omega) hw)
      · obtain ⟨ρ, hP⟩ := hq
        exact J_bud (by omega) (by omega) (m_gainX2 (dd := d + 18) hP (by omega) hw)
  · refine ⟨1, 0, nI 0, σ, by decide, fun _ => rfl, fun q => absurd q (by decide), fun d h hG => ?_, fun d h th hq => ?_⟩
    · obtain ⟨π, hG⟩ := hG
      exact cx_1 (c_gainX1 (d := d + 56) hG hm)
    · obtain ⟨ρ, hP⟩ := hq
      exact J_bud (by omega) (by omega) (m_gainX1 (dd := d + 18) hP hm)

set_option maxHeartbeats 2000000 in
set_option maxRecDepth 20000 in
theorem pair_best {g : GT} {σ : ST} (hW : WF σ.1) (ok : okS σ) (what : Int32) : PAIR g mX2_best mX3_best [.int what] 1 "java/lang/IndexOutOfBoundsException" "none" σ := by
  have hc1 := cnt_le (gro σ.1)
  have hc2 := cnt_le σ.1.2.1
  obtain ⟨o1, o2, o3, o4⟩ := id ok
  by_cases hw : inZ 0 1 what
  · obtain ⟨q, rfl, _, hq, _⟩ := inZ_n (hi := 1) hw (by decide)
    obtain rfl | rfl : q = 0 ∨ q = 1 := by omega
    · refine ⟨0, enc (bsS σ.1 σ.2.1.2.2 0), enc (bsS σ.1 σ.2.1.2.2 0), σ, by decide, fun q => absurd rfl q, fun _ => rfl, fun d h hG => ?_, fun d h th hq => ?_⟩
      · obtain ⟨π, hG⟩ := hG
        exact cx_i (c_best0 (d := d + 55) hG) hG
      · obtain ⟨ρ, hP⟩ := hq
        exact J_bud (by omega) (by omega) (m_best0 (dd := d + 55) hP)
    · refine ⟨0, enc (bsS σ.1 σ.2.1.2.2 1), enc (bsS σ.1 σ.2.1.2.2 1), σ, by decide, fun q => absurd rfl q, fun _ => rfl, fun d h hG => ?_, fun d h th hq => ?_⟩
      · obtain ⟨π, hG⟩ := hG
        exact cx_i (c_best1 (d := d + 55) hG) hG
      · obtain ⟨ρ, hP⟩ := hq
        exact J_bud (by omega) (by omega) (m_best1 (dd := d + 55) hP)
  · refine ⟨1, 0, nI 0, σ, by decide, fun _ => rfl, fun q => absurd q (by decide), fun d h hG => ?_, fun d h th hq => ?_⟩
    · obtain ⟨π, hG⟩ := hG
      exact cx_1 (c_bestX1 (d := d + 55) hG hw)
    · obtain ⟨ρ, hP⟩ := hq
      exact J_bud (by omega) (by omega) (m_bestX1 (dd := d + 55) hP hw)

set_option maxHeartbeats 2000000 in
set_option maxRecDepth 20000 in
theorem pair_would {g : GT} {σ : ST} (hW : WF σ.1) (ok : okS σ) (mo ls what : Int32) : PAIR g mX2_would mX3_would [.int mo, .int ls, .int what] 2 "java/lang/IllegalArgumentException" "java/lang/IndexOutOfBoundsException" σ := by
  have hc1 := cnt_le (gro σ.1)
  have hc2 := cnt_le σ.1.2.1
  obtain ⟨o1, o2, o3, o4⟩ := id ok
  by_cases hm : inZ 1 5 mo
  · by_cases hl : inZ 1 6 ls
    · by_cases hw : inZ 0 2 what
      · obtain ⟨mo, rfl, hm1, hm, _⟩ := inZ_n (hi := 5) hm (by decide)
        obtain ⟨ls, rfl, hl1, hl, _⟩ := inZ_n (hi := 6) hl (by decide)
        obtain ⟨q, rfl, _, hq, _⟩ := inZ_n (hi := 2) hw (by decide)
        have hml : cnt (gro σ.1) * mo ≤ 20 * 5 := Nat.mul_le_mul hc1 hm
        by_cases hg0 : gro σ.1 = 0
        · refine ⟨0, nI 0, nI 0, σ, by decide, fun q => absurd rfl q, fun _ => rfl, fun d h hG => ?_, fun d h th hq => ?_⟩
          · obtain ⟨π, hG⟩ := hG
            exact cx_i (c_wouldZ (d := d + 54) hG (by omega) hm (by omega) hl hq hg0) hG
          · obtain ⟨ρ, hP⟩ := hq
            exact J_bud (by omega) (by omega) (m_wouldZ (dd := d + 48) hP (by omega) hm (by omega) hl hq hg0)
        · obtain rfl | rfl | rfl : q = 0 ∨ q = 1 ∨ q = 2 := by omega
          · refine ⟨0, nI (wdS σ.1 mo ls 0), nI (wdS σ.1 mo ls 0), σ, by decide, fun q => absurd rfl q, fun _ => rfl, fun d h hG => ?_, fun d h th hq => ?_⟩
            · obtain ⟨π, hG⟩ := hG
              exact cx_h (c_would0 (d := d + 54) hG (by omega) hm (by omega) hl hg0)
            · obtain ⟨ρ, hP⟩ := hq
              exact J_bud (by omega) (by omega) (m_would0 (dd := d + 48) hP (by omega) hm (by omega) hl hg0)
          · refine ⟨0, nI (wdS σ.1 mo ls 1), nI (wdS σ.1 mo ls 1), σ, by decide, fun q => absurd rfl q, fun _ => rfl, fun d h hG => ?_, fun d h th hq => ?_⟩
            · obtain ⟨π, hG⟩ := hG
              exact cx_h (c_would1 (d := d + 54) hG (by omega) hm (by omega) hl hg0)
            · obtain ⟨ρ, hP⟩ := hq
              exact J_bud (by omega) (by omega) (m_would1 (dd := d + 48) hP (by omega) hm (by omega) hl hg0)
          · refine ⟨0, nI (wdS σ.1 mo ls 2), nI (wdS σ.1 mo ls 2), σ, by decide, fun q => absurd rfl q, fun _ => rfl, fun d h hG => ?_, fun d h th hq => ?_⟩
            · obtain ⟨π, hG⟩ := hG
              exact cx_h (c_would2 (d := d + 54) hG (by omega) hm (by omega) hl hg0)
            · obtain ⟨ρ, hP⟩ := hq
              exact J_bud (by omega) (by omega) (m_would2 (dd := d + 48) hP (by omega) hm (by omega) hl hg0)
      · refine ⟨2, 0, nI 0, σ, by decide, fun _ => rfl, fun q => absurd q (by decide), fun d h hG => ?_, fun d h th hq => ?_⟩
        · obtain ⟨π, hG⟩ := hG
          exact cx_2 (c_wouldX3 (d := d + 54) hG hm hl hw)
        · obtain ⟨ρ, hP⟩ := hq
          exact J_bud (by omega) (by omega) (m_wouldX3 (dd := d + 48) hP hm hl hw)
    · refine ⟨1, 0, nI 0, σ, by decide, fun _ => rfl, fun q => absurd q (by decide), fun d h hG => ?_, fun d h th hq => ?_⟩
      · obtain ⟨π, hG⟩ := hG
        exact cx_1 (c_wouldX2 (d := d + 54) hG hm hl)
      · obtain ⟨ρ, hP⟩ := hq
        exact J_bud (by omega) (by omega) (m_wouldX2 (dd := d + 48) hP hm hl)
  · refine ⟨1, 0, nI 0, σ, by decide, fun _ => rfl, fun q => absurd q (by decide), fun d h hG => ?_, fun d h th hq => ?_⟩
    · obtain ⟨π, hG⟩ := hG
      exact cx_1 (c_wouldX1 (d := d + 54) hG hm)
    · obtain ⟨ρ, hP⟩ := hq
      exact J_bud (by omega) (by omega) (m_wouldX1 (dd := d + 48) hP hm)

set_option maxHeartbeats 2000000 in
set_option maxRecDepth 20000 in
theorem pair_check {g : GT} {σ : ST} (hW : WF σ.1) (x : Int32) (v : Bool) : ∃ (k : Nat) (b : Bool) (σ' : ST), k ≤ 1 ∧ (k ≠ 0 → σ' = σ) ∧ (∀ d h, GH h σ → J g (d + 60) 1 6 mX2_check 0 (lv_args 0 [.ref 1, .int x, .int (bI v)]) [] h (CO h k (.int (bI b)) σ' "java/lang/IndexOutOfBoundsException" "none")) ∧ (∀ d h th, MQs h σ th → J g (d + 60) 1110 7000 mX3_check 0 (lv_args 0 [.ref 53, .int x, .int (bI v)]) [] h (RMo (.int (bI b)) h σ' (nI k))) := by
  by_cases hx : 0 ≤ x.toInt ∧ x.toInt < (σ.1.1 : Int)
  · obtain ⟨k, rfl, hk⟩ := tr_n hx
    refine ⟨0, σ.1.2.1.testBit k, (checkB σ.1 k v, σ.2), by decide, fun q => absurd rfl q, fun d h hG => ?_, fun d h th hq => ?_⟩
    · obtain ⟨π, hG⟩ := hG
      exact cx_h (c_check (d := d + 58) hG hk)
    · obtain ⟨ρ, hP⟩ := hq
      exact J_bud (Nat.zero_le _) (Nat.zero_le _) (m_check (dd := d + 59) hP hk)
  · refine ⟨1, false, σ, by decide, fun _ => rfl, fun d h hG => ?_, fun d h th hq => ?_⟩
    · obtain ⟨π, hG⟩ := hG
      exact cx_1 (c_checkX1 (d := d + 58) hG hx)
    · obtain ⟨ρ, hP⟩ := hq
      exact J_bud (Nat.zero_le _) (Nat.zero_le _) (m_checkX1 (dd := d + 59) hP hx)
theorem ad_bd (n c : Nat) (hn : n ≤ 20) (hc : c ≤ 20) : adC n c 5 1 ≤ 1110 ∧ adT n c 5 1 ≤ 7000 := by
  simp only [adC, adT]
  omega

