-- the grove: votes, counts, gains
set_option maxHeartbeats 2000000 in
set_option maxRecDepth 20000 in
theorem vf_in {g : GT} {d : Nat} {h : MH} {σ : ST} {π : Nat → Nat} (hG : GP h σ π) {a b c s mo : Nat} {v : Option Nat} {Q : RT → MH → Prop} (ha : a ≤ 50) (hb : b ≤ 50) (hc : c ≤ 50) (hs : s < 3) : ∀ (k i m : Nat), i + k = σ.2.1.1 →
    J g (d + 2) 0 0 mX2_votedFor 57 [(7, .int (nI (m + sumP (fun i => if saT 5 (σ.2.2.1 i) a b c = s then 1 else 0) k i))), (6, .int (nI (s))), (5, .int (nI (mo))), (4, .int (enc (v))), (0, .ref (1)), (1, .int (nI (a))), (2, .int (nI (b))), (3, .int (nI (c)))] [] h Q → J g (d + 2) 0 0 mX2_votedFor 21 [(8, .int (nI (i))), (7, .int (nI (m))), (6, .int (nI (s))), (5, .int (nI (mo))), (4, .int (enc (v))), (0, .ref (1)), (1, .int (nI (a))), (2, .int (nI (b))), (3, .int (nI (c)))] [] h Q := by
  obtain ⟨g1, g2, g3, g4, ⟨tf, g5, g5b⟩, g6, g7, g8⟩ := id hG
  obtain ⟨o1, o2, o3, o4⟩ := id g2
  have hB := g1
  have b9 := BH_2 g1
  obtain ⟨hn, hc9, hm5, hs2⟩ := id g1.1
  have hp9 := pw_le hn
  intro k
  induction k with
  | zero =>
    intro i m hi hx
    refine J_iload (i := 8) (pc := 21) dX2_votedFor_21 rfl ?_
    refine J_aload_n (i := 0) (pc := 23) dX2_votedFor_23 rfl rfl ?_
    refine J_getf (k := 3) (pc := 24) dX2_votedFor_24 flX2_27 g4 rfl ?_
    refine J_icmp_geN (tgt := 57) (pc := 27) dX2_votedFor_27 (by decide) (by omega) (by omega) (fun c27 => ?_) (fun c27 => by exfalso; first | omega | simp_all)
    refine J_sub (lv' := [(7, .int (nI (m))), (6, .int (nI (s))), (5, .int (nI (mo))), (4, .int (enc (v))), (0, .ref (1)), (1, .int (nI (a))), (2, .int (nI (b))), (3, .int (nI (c)))]) [1, 2, 3, 4, 5, 6, 7, 8] rfl ?_
    exact hx
  | succ k ih =>
    intro i m hi hx
    have hj : i < σ.2.1.1 := by omega
    have hj5 : i < 5 := by omega
    obtain ⟨cf, sf, gf, df, mf, rf, hT, hK⟩ := g8 i hj
    obtain ⟨oki, n39⟩ := o4 i hj
    have n1 := nN_pos 5 (σ.2.2.1 i)
    obtain ⟨p18, p46, fs, hfs⟩ := GP_tr hG hj5
    have hsa := saT_le 5 (σ.2.2.1 i) a b c oki
    refine J_iload (i := 8) (pc := 21) dX2_votedFor_21 rfl ?_
    refine J_aload_n (i := 0) (pc := 23) dX2_votedFor_23 rfl rfl ?_
    refine J_getf (k := 3) (pc := 24) dX2_votedFor_24 flX2_27 g4 rfl ?_
    refine J_icmp_geN (tgt := 57) (pc := 27) dX2_votedFor_27 (by decide) (by omega) (by omega) (fun c27 => by exfalso; first | omega | simp_all) (fun c27 => ?_)
    refine J_aload_n (i := 0) (pc := 30) dX2_votedFor_30 rfl rfl ?_
    refine J_getf (k := 1) (pc := 31) dX2_votedFor_31 flX2_18 g4 rfl ?_
    refine J_iload (i := 8) (pc := 34) dX2_votedFor_34 rfl ?_
    refine J_aald (j := i) (b := π i) (pc := 36) dX2_votedFor_36 (by decide) g5 rfl (by omega) (by omega) (g5b i hj5) ?_
    refine J_iload_n (i := 1) (pc := 37) dX2_votedFor_37 rfl rfl ?_
    refine J_iload_n (i := 2) (pc := 38) dX2_votedFor_38 rfl rfl ?_
    refine J_iload_n (i := 3) (pc := 39) dX2_votedFor_39 rfl rfl ?_
    refine J_cVi (st := []) (As := [.int (nI (a)), .int (nI (b)), .int (nI (c))]) (pc := 40) dX2_votedFor_40 okX1_sortFor q2_122 q2_123 q2_124 (rfl : vwCl[1]? = some _) hfs rfl (Nat.le_of_ble_eq_true rfl) (Nat.le_of_ble_eq_true rfl) (c_sortFor hT n39 ha hb hc hK oki (by omega) rfl) ?_
    refine J_iload (i := 6) (pc := 43) dX2_votedFor_43 rfl ?_
    refine J_icmp_neN (tgt := 51) (pc := 45) dX2_votedFor_45 (by decide) (by omega) (by omega) (fun c45 => ?_) (fun c45 => ?_)
    · skip
      refine J_iinc (i := 8) (v := nI (i + 1)) (lv' := [(8, .int (nI (i + 1))), (7, .int (nI (m))), (6, .int (nI (s))), (5, .int (nI (mo))), (4, .int (enc (v))), (0, .ref (1)), (1, .int (nI (a))), (2, .int (nI (b))), (3, .int (nI (c)))]) (pc := 51) dX2_votedFor_51 rfl (nI_add (i) 1) (by decide) rfl ?_
      refine J_goto (tgt := 21) (pc := 54) dX2_votedFor_54 (by decide) ?_
      refine J_sub (lv' := [(8, .int (nI (i + 1))), (7, .int (nI (m))), (6, .int (nI (s))), (5, .int (nI (mo))), (4, .int (enc (v))), (0, .ref (1)), (1, .int (nI (a))), (2, .int (nI (b))), (3, .int (nI (c)))]) [0, 1, 2, 3, 4, 5, 6, 7, 8] rfl ?_
      have r9 := ih (i + 1) m (by omega)
      rw [sumP, if_neg (fun q => c45 q), Nat.zero_add] at hx
      exact r9 hx
    · skip
      refine J_iinc (i := 7) (v := nI (m + 1)) (lv' := [(7, .int (nI (m + 1))), (8, .int (nI (i))), (6, .int (nI (s))), (5, .int (nI (mo))), (4, .int (enc (v))), (0, .ref (1)), (1, .int (nI (a))), (2, .int (nI (b))), (3, .int (nI (c)))]) (pc := 48) dX2_votedFor_48 rfl (nI_add (m) 1) (by decide) rfl ?_
      refine J_iinc (i := 8) (v := nI (i + 1)) (lv' := [(8, .int (nI (i + 1))), (7, .int (nI (m + 1))), (6, .int (nI (s))), (5, .int (nI (mo))), (4, .int (enc (v))), (0, .ref (1)), (1, .int (nI (a))), (2, .int (nI (b))), (3, .int (nI (c)))]) (pc := 51) dX2_votedFor_51 rfl (nI_add (i) 1) (by decide) rfl ?_
      refine J_goto (tgt := 21) (pc := 54) dX2_votedFor_54 (by decide) ?_
      refine J_sub (lv' := [(8, .int (nI (i + 1))), (7, .int (nI (m + 1))), (6, .int (nI (s))), (5, .int (nI (mo))), (4, .int (enc (v))), (0, .ref (1)), (1, .int (nI (a))), (2, .int (nI (b))), (3, .int (nI (c)))]) [0, 1, 2, 3, 4, 5, 6, 7, 8] rfl ?_
      have r9 := ih (i + 1) (m + 1) (by omega)
      rw [sumP, if_pos c45, ← Nat.add_assoc] at hx
      exact r9 hx

set_option maxHeartbeats 2000000 in
set_option maxRecDepth 20000 in
theorem vf_out {g : GT} {d : Nat} {h : MH} {σ : ST} {π : Nat → Nat} (hG : GP h σ π) {a b c : Nat} (ha : a ≤ 50) (hb : b ≤ 50) (hc : c ≤ 50) : ∀ (k s mo : Nat) (v : Option Nat), s + k = 3 → mo ≤ 5 →
    J g (d + 2) 0 0 mX2_votedFor 9 [(6, .int (nI (s))), (5, .int (nI (mo))), (4, .int (enc (v))), (0, .ref (1)), (1, .int (nI (a))), (2, .int (nI (b))), (3, .int (nI (c)))] [] h (RI (enc (vtF (cV σ a b c) k s (v, mo)).1) h) := by
  obtain ⟨g1, g2, g3, g4, ⟨tf, g5, g5b⟩, g6, g7, g8⟩ := id hG
  obtain ⟨o1, o2, o3, o4⟩ := id g2
  have hB := g1
  have b9 := BH_2 g1
  obtain ⟨hn, hc9, hm5, hs2⟩ := id g1.1
  have hp9 := pw_le hn
  intro k
  induction k with
  | zero =>
    intro s mo v hs hmo
    refine J_iload (i := 6) (pc := 9) dX2_votedFor_9 rfl ?_
    refine J_iconst (v := nI (3)) (pc := 11) dX2_votedFor_11 rfl ?_
    refine J_icmp_geN (tgt := 78) (pc := 12) dX2_votedFor_12 (by decide) (by omega) (by omega) (fun c12 => ?_) (fun c12 => by exfalso; first | omega | simp_all)
    refine J_iload (i := 4) (pc := 78) dX2_votedFor_78 rfl ?_
    refine J_iret (ty := .int) (pc := 80) dX2_votedFor_80 rfl rfl ?_
    exact ⟨rfl, rfl⟩
  | succ k ih =>
    intro s mo v hs hmo
    refine J_iload (i := 6) (pc := 9) dX2_votedFor_9 rfl ?_
    refine J_iconst (v := nI (3)) (pc := 11) dX2_votedFor_11 rfl ?_
    refine J_icmp_geN (tgt := 78) (pc := 12) dX2_votedFor_12 (by decide) (by omega) (by omega) (fun c12 => by exfalso; first | omega | simp_all) (fun c12 => ?_)
    refine J_iconst (v := nI (0)) (pc := 15) dX2_votedFor_15 rfl ?_
    refine J_istore (i := 7) (lv' := [(7, .int (nI (0))), (6, .int (nI (s))), (5, .int (nI (mo))), (4, .int (enc (v))), (0, .ref (1)), (1, .int (nI (a))), (2, .int (nI (b))), (3, .int (nI (c)))]) (pc := 16) dX2_votedFor_16 (by decide) rfl ?_
    refine J_iconst (v := nI (0)) (pc := 18) dX2_votedFor_18 rfl ?_
    refine J_istore (i := 8) (lv' := [(8, .int (nI (0))), (7, .int (nI (0))), (6, .int (nI (s))), (5, .int (nI (mo))), (4, .int (enc (v))), (0, .ref (1)), (1, .int (nI (a))), (2, .int (nI (b))), (3, .int (nI (c)))]) (pc := 19) dX2_votedFor_19 (by decide) rfl ?_
    refine J_sub (lv' := [(8, .int (nI (0))), (7, .int (nI (0))), (6, .int (nI (s))), (5, .int (nI (mo))), (4, .int (enc (v))), (0, .ref (1)), (1, .int (nI (a))), (2, .int (nI (b))), (3, .int (nI (c)))]) [0, 1, 2, 3, 4, 5, 6, 7, 8] rfl ?_
    refine vf_in hG ha hb hc (by omega) σ.2.1.1 0 0 (Nat.zero_add _) ?_
    rw [Nat.zero_add]
    have hcv : sumP (fun i => if saT 5 (σ.2.2.1 i) a b c = s then 1 else 0) σ.2.1.1 0 ≤ 5 := Nat.le_trans (sumP_le (b := 1) _ 0 (fun q _ _ => by show (if _ then 1 else 0) ≤ 1; split <;> omega)) (by omega)
    obtain ⟨cv, ecv⟩ : ∃ z, z = sumP (fun i => if saT 5 (σ.2.2.1 i) a b c = s then 1 else 0) σ.2.1.1 0 := ⟨_, rfl⟩
    have ecv2 : cV σ a b c s = cv := ecv.symm
    rw [← ecv] at hcv ⊢
    refine J_iload (i := 7) (pc := 57) dX2_votedFor_57 rfl ?_
    refine J_iload (i := 5) (pc := 59) dX2_votedFor_59 rfl ?_
    refine J_icmp_leN (tgt := 72) (pc := 61) dX2_votedFor_61 (by decide) (by omega) (by omega) (fun c61 => ?_) (fun c61 => ?_)
    · skip
      refine J_iinc (i := 6) (v := nI (s + 1)) (lv' := [(6, .int (nI (s + 1))), (7, .int (nI (cv))), (5, .int (nI (mo))), (4, .int (enc (v))), (0, .ref (1)), (1, .int (nI (a))), (2, .int (nI (b))), (3, .int (nI (c)))]) (pc := 72) dX2_votedFor_72 rfl (nI_add (s) 1) (by decide) rfl ?_
      refine J_goto (tgt := 9) (pc := 75) dX2_votedFor_75 (by decide) ?_
      refine J_sub (lv' := [(6, .int (nI (s + 1))), (5, .int (nI (mo))), (4, .int (enc (v))), (0, .ref (1)), (1, .int (nI (a))), (2, .int (nI (b))), (3, .int (nI (c)))]) [0, 2, 3, 4, 5, 6, 7] rfl ?_
      rw [vtF, ecv2, if_neg (Nat.not_lt.mpr c61)]
      exact ih (s + 1) _ v (by omega) (by exact hmo)
    · skip
      refine J_iload (i := 7) (pc := 64) dX2_votedFor_64 rfl ?_
      refine J_istore (i := 5) (lv' := [(5, .int (nI (cv))), (7, .int (nI (cv))), (6, .int (nI (s))), (4, .int (enc (v))), (0, .ref (1)), (1, .int (nI (a))), (2, .int (nI (b))), (3, .int (nI (c)))]) (pc := 66) dX2_votedFor_66 (by decide) rfl ?_
      refine J_iload (i := 6) (pc := 68) dX2_votedFor_68 rfl ?_
      refine J_istore (i := 4) (lv' := [(4, .int (nI (s))), (5, .int (nI (cv))), (7, .int (nI (cv))), (6, .int (nI (s))), (0, .ref (1)), (1, .int (nI (a))), (2, .int (nI (b))), (3, .int (nI (c)))]) (pc := 70) dX2_votedFor_70 (by decide) rfl ?_
      refine J_iinc (i := 6) (v := nI (s + 1)) (lv' := [(6, .int (nI (s + 1))), (4, .int (nI (s))), (5, .int (nI (cv))), (7, .int (nI (cv))), (0, .ref (1)), (1, .int (nI (a))), (2, .int (nI (b))), (3, .int (nI (c)))]) (pc := 72) dX2_votedFor_72 rfl (nI_add (s) 1) (by decide) rfl ?_
      refine J_goto (tgt := 9) (pc := 75) dX2_votedFor_75 (by decide) ?_
      refine J_sub (lv' := [(6, .int (nI (s + 1))), (5, .int (nI (cv))), (4, .int (nI (s))), (0, .ref (1)), (1, .int (nI (a))), (2, .int (nI (b))), (3, .int (nI (c)))]) [0, 2, 1, 4, 5, 6, 7] rfl ?_
      rw [vtF, ecv2, if_pos c61]
      exact ih (s + 1) _ (some s) (by omega) (by omega)

set_option maxHeartbeats 2000000 in
set_option maxRecDepth 20000 in
theorem c_votedFor {g : GT} {d : Nat} {h : MH} {σ : ST} {π : Nat → Nat} (hG : GP h σ π) {a b c : Nat} (ha : a ≤ 50) (hb : b ≤ 50) (hc : c ≤ 50) : J g (d + 2) 0 0 mX2_votedFor 0 (lv_args 0 [.ref 1, .int (nI a), .int (nI b), .int (nI c)]) [] h (RI (enc (vS σ a b c)) h) := by
  refine J_iconst (v := (-1)) (pc := 0) dX2_votedFor_0 rfl ?_
  refine J_istore (i := 4) (lv' := [(4, .int (-1)), (0, .ref (1)), (1, .int (nI (a))), (2, .int (nI (b))), (3, .int (nI (c)))]) (pc := 1) dX2_votedFor_1 (by decide) rfl ?_
  refine J_iconst (v := nI (0)) (pc := 3) dX2_votedFor_3 rfl ?_
  refine J_istore (i := 5) (lv' := [(5, .int (nI (0))), (4, .int (-1)), (0, .ref (1)), (1, .int (nI (a))), (2, .int (nI (b))), (3, .int (nI (c)))]) (pc := 4) dX2_votedFor_4 (by decide) rfl ?_
  refine J_iconst (v := nI (0)) (pc := 6) dX2_votedFor_6 rfl ?_
  refine J_istore (i := 6) (lv' := [(6, .int (nI (0))), (5, .int (nI (0))), (4, .int (-1)), (0, .ref (1)), (1, .int (nI (a))), (2, .int (nI (b))), (3, .int (nI (c)))]) (pc := 7) dX2_votedFor_7 (by decide) rfl ?_
  refine J_sub (lv' := [(6, .int (nI (0))), (5, .int (nI (0))), (4, .int (-1)), (0, .ref (1)), (1, .int (nI (a))), (2, .int (nI (b))), (3, .int (nI (c)))]) [0, 1, 2, 3, 4, 5, 6] rfl ?_
  exact vf_out hG ha hb hc 3 0 0 none rfl (by omega)

set_option maxHeartbeats 2000000 in
set_option maxRecDepth 20000 in
theorem vr_loop {g : GT} {d : Nat} {h : MH} {σ : ST} {π : Nat → Nat} (hG : GP h σ π) {X : Nat} (hX : X < 2 ^ 20) : ∀ (k b r : Nat), b + k = σ.1.1 → J g (d + 3) 0 0 mX2_votedRight 4 [(3, .int (nI (b))), (2, .int (nI (r))), (0, .ref (1)), (1, .int (nI (X)))] [] h (RI (nI (r + sumP (fun b => if X.testBit b = true ∧ vS σ (σ.1.2.2.1 0 b) (σ.1.2.2.1 1 b) (σ.1.2.2.1 2 b) = some (σ.1.2.2.2 b) then 1 else 0) k b)) h) := by
  obtain ⟨g1, g2, g3, g4, ⟨tf, g5, g5b⟩, g6, g7, g8⟩ := id hG
  obtain ⟨o1, o2, o3, o4⟩ := id g2
  have hB := g1
  have b9 := BH_2 g1
  obtain ⟨hn, hc9, hm5, hs2⟩ := id g1.1
  have hp9 := pw_le hn
  intro k
  induction k with
  | zero =>
    intro b r hb
    refine J_iload_n (i := 3) (pc := 4) dX2_votedRight_4 rfl rfl ?_
    refine J_aload_n (i := 0) (pc := 5) dX2_votedRight_5 rfl rfl ?_
    refine J_getf (k := 0) (pc := 6) dX2_votedRight_6 flX2_12 g4 rfl ?_
    refine J_cVi (st := [.int (nI (b))]) (As := []) (pc := 9) dX2_votedRight_9 okX0_howMany q1_21 q1_22 q1_23 (rfl : vwCl[0]? = some _) b9 rfl (Nat.le_of_ble_eq_true rfl) (Nat.le_of_ble_eq_true rfl) (c_howMany hB) ?_
    refine J_icmp_geN (tgt := 86) (pc := 12) dX2_votedRight_12 (by decide) (by omega) (by omega) (fun c12 => ?_) (fun c12 => by exfalso; first | omega | simp_all)
    refine J_iload_n (i := 2) (pc := 86) dX2_votedRight_86 rfl rfl ?_
    refine J_iret (ty := .int) (pc := 87) dX2_votedRight_87 rfl rfl ?_
    exact ⟨rfl, rfl⟩
  | succ k ih =>
    intro b r hk
    have hb : b < σ.1.1 := by omega
    have hs9 := hs2 b hb
    have hv31 : ∀ z, vS σ (σ.1.2.2.1 0 b) (σ.1.2.2.1 1 b) (σ.1.2.2.1 2 b) = some z → z < 2 ^ 31 := fun z e => by have := vS_le e; omega
    refine J_iload_n (i := 3) (pc := 4) dX2_votedRight_4 rfl rfl ?_
    refine J_aload_n (i := 0) (pc := 5) dX2_votedRight_5 rfl rfl ?_
    refine J_getf (k := 0) (pc := 6) dX2_votedRight_6 flX2_12 g4 rfl ?_
    refine J_cVi (st := [.int (nI (b))]) (As := []) (pc := 9) dX2_votedRight_9 okX0_howMany q1_21 q1_22 q1_23 (rfl : vwCl[0]? = some _) b9 rfl (Nat.le_of_ble_eq_true rfl) (Nat.le_of_ble_eq_true rfl) (c_howMany hB) ?_
    refine J_icmp_geN (tgt := 86) (pc := 12) dX2_votedRight_12 (by decide) (by omega) (by omega) (fun c12 => by exfalso; first | omega | simp_all) (fun c12 => ?_)
    refine J_aload_n (i := 0) (pc := 15) dX2_votedRight_15 rfl rfl ?_
    refine J_getf (k := 0) (pc := 16) dX2_votedRight_16 flX2_12 g4 rfl ?_
    refine J_iload_n (i := 3) (pc := 19) dX2_votedRight_19 rfl rfl ?_
    refine J_iconst (v := nI (0)) (pc := 20) dX2_votedRight_20 rfl ?_
    refine J_cVi (st := []) (As := [.int (nI (b)), .int (nI (0))]) (pc := 21) dX2_votedRight_21 okX0_measureOf q2_101 q2_102 q2_103 (rfl : vwCl[0]? = some _) b9 rfl (Nat.le_of_ble_eq_true rfl) (Nat.le_of_ble_eq_true rfl) (c_measureOf hB hb (by omega)) ?_
    refine J_istore (i := 4) (lv' := [(4, .int (nI (σ.1.2.2.1 0 b))), (3, .int (nI (b))), (2, .int (nI (r))), (0, .ref (1)), (1, .int (nI (X)))]) (pc := 24) dX2_votedRight_24 (by decide) rfl ?_
    refine J_aload_n (i := 0) (pc := 26) dX2_votedRight_26 rfl rfl ?_
    refine J_getf (k := 0) (pc := 27) dX2_votedRight_27 flX2_12 g4 rfl ?_
    refine J_iload_n (i := 3) (pc := 30) dX2_votedRight_30 rfl rfl ?_
    refine J_iconst (v := nI (1)) (pc := 31) dX2_votedRight_31 rfl ?_
    refine J_cVi (st := []) (As := [.int (nI (b)), .int (nI (1))]) (pc := 32) dX2_votedRight_32 okX0_measureOf q2_101 q2_102 q2_103 (rfl : vwCl[0]? = some _) b9 rfl (Nat.le_of_ble_eq_true rfl) (Nat.le_of_ble_eq_true rfl) (c_measureOf hB hb (by omega)) ?_
    refine J_istore (i := 5) (lv' := [(5, .int (nI (σ.1.2.2.1 1 b))), (4, .int (nI (σ.1.2.2.1 0 b))), (3, .int (nI (b))), (2, .int (nI (r))), (0, .ref (1)), (1, .int (nI (X)))]) (pc := 35) dX2_votedRight_35 (by decide) rfl ?_
    refine J_aload_n (i := 0) (pc := 37) dX2_votedRight_37 rfl rfl ?_
    refine J_getf (k := 0) (pc := 38) dX2_votedRight_38 flX2_12 g4 rfl ?_
    refine J_iload_n (i := 3) (pc := 41) dX2_votedRight_41 rfl rfl ?_
    refine J_iconst (v := nI (2)) (pc := 42) dX2_votedRight_42 rfl ?_
    refine J_cVi (st := []) (As := [.int (nI (b)), .int (nI (2))]) (pc := 43) dX2_votedRight_43 okX0_measureOf q2_101 q2_102 q2_103 (rfl : vwCl[0]? = some _) b9 rfl (Nat.le_of_ble_eq_true rfl) (Nat.le_of_ble_eq_true rfl) (c_measureOf hB hb (by omega)) ?_
    refine J_istore (i := 6) (lv' := [(6, .int (nI (σ.1.2.2.1 2 b))), (5, .int (nI (σ.1.2.2.1 1 b))), (4, .int (nI (σ.1.2.2.1 0 b))), (3, .int (nI (b))), (2, .int (nI (r))), (0, .ref (1)), (1, .int (nI (X)))]) (pc := 46) dX2_votedRight_46 (by decide) rfl ?_
    refine J_iload_n (i := 1) (pc := 48) dX2_votedRight_48 rfl rfl ?_
    refine J_iload_n (i := 3) (pc := 49) dX2_votedRight_49 rfl rfl ?_
    refine J_cSi (st := []) (As := [.int (nI (X)), .int (nI (b))]) (pc := 50) dX2_votedRight_50 okX2_isIn q2_117 q1_100 rfl (Nat.le_of_ble_eq_true rfl) (Nat.le_of_ble_eq_true rfl) (c_isIn (by omega) (by omega)) ?_
    refine J_if_eqB (tgt := 80) (pc := 53) dX2_votedRight_53 (by decide) (fun c53 => ?_) (fun c53 => ?_)
    · skip
      refine J_iinc (i := 3) (v := nI (b + 1)) (lv' := [(3, .int (nI (b + 1))), (6, .int (nI (σ.1.2.2.1 2 b))), (5, .int (nI (σ.1.2.2.1 1 b))), (4, .int (nI (σ.1.2.2.1 0 b))), (2, .int (nI (r))), (0, .ref (1)), (1, .int (nI (X)))]) (pc := 80) dX2_votedRight_80 rfl (nI_add (b) 1) (by decide) rfl ?_
      refine J_goto (tgt := 4) (pc := 83) dX2_votedRight_83 (by decide) ?_
      refine J_sub (lv' := [(3, .int (nI (b + 1))), (2, .int (nI (r))), (0, .ref (1)), (1, .int (nI (X)))]) [0, 4, 5, 6] rfl ?_
      have r9 := ih (b + 1) r (by omega)
      rw [sumP, if_neg (fun q => by first | (rw [c53] at q; exact absurd q.1 (by decide)) | exact c74 ((enc_eq hv31 (by omega)).mpr q.2)), Nat.zero_add]
      exact r9
    · skip
      refine J_aload_n (i := 0) (pc := 56) dX2_votedRight_56 rfl rfl ?_
      refine J_iload (i := 4) (pc := 57) dX2_votedRight_57 rfl ?_
      refine J_iload (i := 5) (pc := 59) dX2_votedRight_59 rfl ?_
      refine J_iload (i := 6) (pc := 61) dX2_votedRight_61 rfl ?_
      refine J_cVi (st := []) (As := [.int (nI (σ.1.2.2.1 0 b)), .int (nI (σ.1.2.2.1 1 b)), .int (nI (σ.1.2.2.1 2 b))]) (pc := 63) dX2_votedRight_63 okX2_votedFor q2_118 q2_120 qs1_10 (rfl : vwCl[2]? = some _) g4 rfl (Nat.le_of_ble_eq_true rfl) (Nat.le_of_ble_eq_true rfl) (c_votedFor hG (hm5 0 b hb) (hm5 1 b hb) (hm5 2 b hb)) ?_
      refine J_aload_n (i := 0) (pc := 66) dX2_votedRight_66 rfl rfl ?_
      refine J_getf (k := 0) (pc := 67) dX2_votedRight_67 flX2_12 g4 rfl ?_
      refine J_iload_n (i := 3) (pc := 70) dX2_votedRight_70 rfl rfl ?_
      refine J_cVi (st := [.int (enc (vS σ (σ.1.2.2.1 0 b) (σ.1.2.2.1 1 b) (σ.1.2.2.1 2 b)))]) (As := [.int (nI (b))]) (pc := 71) dX2_votedRight_71 okX0_sortOf q2_105 q2_106 q2_107 (rfl : vwCl[0]? = some _) b9 rfl (Nat.le_of_ble_eq_true rfl) (Nat.le_of_ble_eq_true rfl) (c_sortOf hB hb) ?_
      refine J_icmp_ne (tgt := 80) (pc := 74) dX2_votedRight_74 (by decide) (fun c74 => ?_) (fun c74 => ?_)
      · skip
        refine J_iinc (i := 3) (v := nI (b + 1)) (lv' := [(3, .int (nI (b + 1))), (6, .int (nI (σ.1.2.2.1 2 b))), (5, .int (nI (σ.1.2.2.1 1 b))), (4, .int (nI (σ.1.2.2.1 0 b))), (2, .int (nI (r))), (0, .ref (1)), (1, .int (nI (X)))]) (pc := 80) dX2_votedRight_80 rfl (nI_add (b) 1) (by decide) rfl ?_
        refine J_goto (tgt := 4) (pc := 83) dX2_votedRight_83 (by decide) ?_
        refine J_sub (lv' := [(3, .int (nI (b + 1))), (2, .int (nI (r))), (0, .ref (1)), (1, .int (nI (X)))]) [0, 4, 5, 6] rfl ?_
        have r9 := ih (b + 1) r (by omega)
        rw [sumP, if_neg (fun q => by first | (rw [c53] at q; exact absurd q.1 (by decide)) | exact c74 ((enc_eq hv31 (by omega)).mpr q.2)), Nat.zero_add]
        exact r9
      · skip
        refine J_iinc (i := 2) (v := nI (r + 1)) (lv' := [(2, .int (nI (r + 1))), (6, .int (nI (σ.1.2.2.1 2 b))), (5, .int (nI (σ.1.2.2.1 1 b))), (4, .int (nI (σ.1.2.2.1 0 b))), (3, .int (nI (b))), (0, .ref (1)), (1, .int (nI (X)))]) (pc := 77) dX2_votedRight_77 rfl (nI_add (r) 1) (by decide) rfl ?_
        refine J_iinc (i := 3) (v := nI (b + 1)) (lv' := [(3, .int (nI (b + 1))), (2, .int (nI (r + 1))), (6, .int (nI (σ.1.2.2.1 2 b))), (5, .int (nI (σ.1.2.2.1 1 b))), (4, .int (nI (σ.1.2.2.1 0 b))), (0, .ref (1)), (1, .int (nI (X)))]) (pc := 80) dX2_votedRight_80 rfl (nI_add (b) 1) (by decide) rfl ?_
        refine J_goto (tgt := 4) (pc := 83) dX2_votedRight_83 (by decide) ?_
        refine J_sub (lv' := [(3, .int (nI (b + 1))), (2, .int (nI (r + 1))), (0, .ref (1)), (1, .int (nI (X)))]) [0, 1, 5, 6] rfl ?_
        have r9 := ih (b + 1) (r + 1) (by omega)
        rw [sumP, if_pos ⟨c53, (enc_eq hv31 (by omega)).mp c74⟩, ← Nat.add_assoc]
        exact r9
theorem c_votedRight {g : GT} {d : Nat} {h : MH} {σ : ST} {π : Nat → Nat} (hG : GP h σ π) {X : Nat} (hX : X < 2 ^ 20) : J g (d + 3) 0 0 mX2_votedRight 0 (lv_args 0 [.ref 1, .int (nI X)]) [] h (RI (nI (vrS σ X)) h) := by
  rw [show vrS σ X = 0 + vrS σ X from (Nat.zero_add _).symm]
  refine J_iconst (v := nI (0)) (pc := 0) dX2_votedRight_0 rfl ?_
  refine J_istore_n (i := 2) (lv' := [(2, .int (nI (0))), (0, .ref (1)), (1, .int (nI (X)))]) (pc := 1) dX2_votedRight_1 rfl (by decide) rfl ?_
  refine J_iconst (v := nI (0)) (pc := 2) dX2_votedRight_2 rfl ?_
  refine J_istore_n (i := 3) (lv' := [(3, .int (nI (0))), (2, .int (nI (0))), (0, .ref (1)), (1, .int (nI (X)))]) (pc := 3) dX2_votedRight_3 rfl (by decide) rfl ?_
  refine J_sub (lv' := [(3, .int (nI (0))), (2, .int (nI (0))), (0, .ref (1)), (1, .int (nI (X)))]) [0, 1, 2, 3] rfl ?_
  exact vr_loop hG hX σ.1.1 0 0 (Nat.zero_add _)

set_option maxHeartbeats 2000000 in
set_option maxRecDepth 20000 in
theorem c_count0 {g : GT} {d : Nat} {h : MH} {σ : ST} {π : Nat → Nat} (hG : GP h σ π) : J g (d + 4) 0 0 mX2_count 0 (lv_args 0 [.ref 1, .int (nI (0))]) [] h (RI (nI (ctS σ 0)) h) := by
  obtain ⟨g1, g2, g3, g4, ⟨tf, g5, g5b⟩, g6, g7, g8⟩ := id hG
  obtain ⟨o1, o2, o3, o4⟩ := id g2
  have hB := g1
  have b9 := BH_2 g1
  obtain ⟨hn, hc9, hm5, hs2⟩ := id g1.1
  have hp9 := pw_le hn

  refine J_iload_n (i := 1) (pc := 0) dX2_count_0 rfl rfl ?_
  refine J_if_lt (tgt := 10) (pc := 1) dX2_count_1 (by decide) (fun c1 => absurd c1 (nI_pos (by decide))) (fun c1 => ?_)
  refine J_iload_n (i := 1) (pc := 4) dX2_count_4 rfl rfl ?_
  refine J_bipush (v := nI (6)) (pc := 5) dX2_count_5 rfl ?_
  refine J_icmp_leN (tgt := 20) (pc := 7) dX2_count_7 (by decide) (by omega) (by omega) (fun c7 => ?_) (fun c7 => by exfalso; first | omega | simp_all)
  refine J_iload_n (i := 1) (pc := 20) dX2_count_20 rfl rfl ?_
  refine J_tableIn (off := 39) (tgt := 60) (pc := 21) dX2_count_21 (by decide) (by decide) (by decide +kernel) (by decide) ?_
  refine J_aload_n (i := 0) (pc := 60) dX2_count_60 rfl rfl ?_
  refine J_getf (k := 0) (pc := 61) dX2_count_61 flX2_12 g4 rfl ?_
  refine J_cVi (st := []) (As := []) (pc := 64) dX2_count_64 okX0_howMany q1_21 q1_22 q1_23 (rfl : vwCl[0]? = some _) b9 rfl (Nat.le_of_ble_eq_true rfl) (Nat.le_of_ble_eq_true rfl) (c_howMany hB) ?_
  refine J_iret (ty := .int) (pc := 67) dX2_count_67 rfl rfl ?_
  exact ⟨rfl, rfl⟩

set_option maxHeartbeats 2000000 in
set_option maxRecDepth 20000 in
theorem c_count1 {g : GT} {d : Nat} {h : MH} {σ : ST} {π : Nat → Nat} (hG : GP h σ π) : J g (d + 4) 0 0 mX2_count 0 (lv_args 0 [.ref 1, .int (nI (1))]) [] h (RI (nI (ctS σ 1)) h) := by
  obtain ⟨g1, g2, g3, g4, ⟨tf, g5, g5b⟩, g6, g7, g8⟩ := id hG
  obtain ⟨o1, o2, o3, o4⟩ := id g2
  have hB := g1
  have b9 := BH_2 g1
  obtain ⟨hn, hc9, hm5, hs2⟩ := id g1.1
  have hp9 := pw_le hn

  refine J_iload_n (i := 1) (pc := 0) dX2_count_0 rfl rfl ?_
  refine J_if_lt (tgt := 10) (pc := 1) dX2_count_1 (by decide) (fun c1 => absurd c1 (nI_pos (by decide))) (fun c1 => ?_)
  refine J_iload_n (i := 1) (pc := 4) dX2_count_4 rfl rfl ?_
  refine J_bipush (v := nI (6)) (pc := 5) dX2_count_5 rfl ?_
  refine J_icmp_leN (tgt := 20) (pc := 7) dX2_count_7 (by decide) (by omega) (by omega) (fun c7 => ?_) (fun c7 => by exfalso; first | omega | simp_all)
  refine J_iload_n (i := 1) (pc := 20) dX2_count_20 rfl rfl ?_
  refine J_tableIn (off := 47) (tgt := 68) (pc := 21) dX2_count_21 (by decide) (by decide) (by decide +kernel) (by decide) ?_
  refine J_aload_n (i := 0) (pc := 68) dX2_count_68 rfl rfl ?_
  refine J_getf (k := 0) (pc := 69) dX2_count_69 flX2_12 g4 rfl ?_
  refine J_cVi (st := []) (As := []) (pc := 72) dX2_count_72 okX0_checks q2_2 q2_3 q2_4 (rfl : vwCl[0]? = some _) b9 rfl (Nat.le_of_ble_eq_true rfl) (Nat.le_of_ble_eq_true rfl) (c_checks hB) ?_
  refine J_cSi (st := []) (As := [.int (nI (σ.1.2.1))]) (pc := 75) dX2_count_75 okJ6_bitCount_0f7a4 q1_215 q1_186 rfl (Nat.le_of_ble_eq_true rfl) (Nat.le_of_ble_eq_true rfl) (c_bitCount (by omega)) ?_
  refine J_iret (ty := .int) (pc := 78) dX2_count_78 rfl rfl ?_
  exact ⟨rfl, rfl⟩

set_option maxHeartbeats 2000000 in
set_option maxRecDepth 20000 in
theorem c_count2 {g : GT} {d : Nat} {h : MH} {σ : ST} {π : Nat → Nat} (hG : GP h σ π) : J g (d + 4) 0 0 mX2_count 0 (lv_args 0 [.ref 1, .int (nI (2))]) [] h (RI (nI (ctS σ 2)) h) := by
  obtain ⟨g1, g2, g3, g4, ⟨tf, g5, g5b⟩, g6, g7, g8⟩ := id hG
  obtain ⟨o1, o2, o3, o4⟩ := id g2
  have hB := g1
  have b9 := BH_2 g1
  obtain ⟨hn, hc9, hm5, hs2⟩ := id g1.1
  have hp9 := pw_le hn

  refine J_iload_n (i := 1) (pc := 0) dX2_count_0 rfl rfl ?_
  refine J_if_lt (tgt := 10) (pc := 1) dX2_count_1 (by decide) (fun c1 => absurd c1 (nI_pos (by decide))) (fun c1 => ?_)
  refine J_iload_n (i := 1) (pc := 4) dX2_count_4 rfl rfl ?_
  refine J_bipush (v := nI (6)) (pc := 5) dX2_count_5 rfl ?_
  refine J_icmp_leN (tgt := 20) (pc := 7) dX2_count_7 (by decide) (by omega) (by omega) (fun c7 => ?_) (fun c7 => by exfalso; first | omega | simp_all)
  refine J_iload_n (i := 1) (pc := 20) dX2_count_20 rfl rfl ?_
  refine J_tableIn (off := 58) (tgt := 79) (pc := 21) dX2_count_21 (by decide) (by decide) (by decide +kernel) (by decide) ?_
  refine J_aload_n (i := 0) (pc := 79) dX2_count_79 rfl rfl ?_
  refine J_getf (k := 3) (pc := 80) dX2_count_80 flX2_27 g4 rfl ?_
  refine J_iret (ty := .int) (pc := 83) dX2_count_83 rfl rfl ?_
  exact ⟨rfl, rfl⟩

set_option maxHeartbeats 2000000 in
set_option maxRecDepth 20000 in
theorem c_count3 {g : GT} {d : Nat} {h : MH} {σ : ST} {π : Nat → Nat} (hG : GP h σ π) : J g (d + 4) 0 0 mX2_count 0 (lv_args 0 [.ref 1, .int (nI (3))]) [] h (RI (nI (ctS σ 3)) h) := by
  obtain ⟨g1, g2, g3, g4, ⟨tf, g5, g5b⟩, g6, g7, g8⟩ := id hG
  obtain ⟨o1, o2, o3, o4⟩ := id g2
  have hB := g1
  have b9 := BH_2 g1
  obtain ⟨hn, hc9, hm5, hs2⟩ := id g1.1
  have hp9 := pw_le hn

  refine J_iload_n (i := 1) (pc := 0) dX2_count_0 rfl rfl ?_
  refine J_if_lt (tgt := 10) (pc := 1) dX2_count_1 (by decide) (fun c1 => absurd c1 (nI_pos (by decide))) (fun c1 => ?_)
  refine J_iload_n (i := 1) (pc := 4) dX2_count_4 rfl rfl ?_
  refine J_bipush (v := nI (6)) (pc := 5) dX2_count_5 rfl ?_
  refine J_icmp_leN (tgt := 20) (pc := 7) dX2_count_7 (by decide) (by omega) (by omega) (fun c7 => ?_) (fun c7 => by exfalso; first | omega | simp_all)
  refine J_iload_n (i := 1) (pc := 20) dX2_count_20 rfl rfl ?_
  refine J_tableIn (off := 63) (tgt := 84) (pc := 21) dX2_count_21 (by decide) (by decide) (by decide +kernel) (by decide) ?_
  refine J_aload_n (i := 0) (pc := 84) dX2_count_84 rfl rfl ?_
  refine J_aload_n (i := 0) (pc := 85) dX2_count_85 rfl rfl ?_
  refine J_getf (k := 0) (pc := 86) dX2_count_86 flX2_12 g4 rfl ?_
  refine J_cVi (st := [.ref (1)]) (As := []) (pc := 89) dX2_count_89 okX0_growing q2_83 q1_164 q1_165 (rfl : vwCl[0]? = some _) b9 rfl (Nat.le_of_ble_eq_true rfl) (Nat.le_of_ble_eq_true rfl) (c_growing hB) ?_
  refine J_cVi (st := []) (As := [.int (nI (gro σ.1))]) (pc := 92) dX2_count_92 okX2_votedRight q2_113 q2_115 qs1_9 (rfl : vwCl[2]? = some _) g4 rfl (Nat.le_of_ble_eq_true rfl) (Nat.le_of_ble_eq_true rfl) (c_votedRight hG (gro_lt hB.1)) ?_
  refine J_iret (ty := .int) (pc := 95) dX2_count_95 rfl rfl ?_
  exact ⟨rfl, rfl⟩

set_option maxHeartbeats 2000000 in
set_option maxRecDepth 20000 in
theorem c_count4 {g : GT} {d : Nat} {h : MH} {σ : ST} {π : Nat → Nat} (hG : GP h σ π) : J g (d + 4) 0 0 mX2_count 0 (lv_args 0 [.ref 1, .int (nI (4))]) [] h (RI (nI (ctS σ 4)) h) := by
  obtain ⟨g1, g2, g3, g4, ⟨tf, g5, g5b⟩, g6, g7, g8⟩ := id hG
  obtain ⟨o1, o2, o3, o4⟩ := id g2
  have hB := g1
  have b9 := BH_2 g1
  obtain ⟨hn, hc9, hm5, hs2⟩ := id g1.1
  have hp9 := pw_le hn

  refine J_iload_n (i := 1) (pc := 0) dX2_count_0 rfl rfl ?_
  refine J_if_lt (tgt := 10) (pc := 1) dX2_count_1 (by decide) (fun c1 => absurd c1 (nI_pos (by decide))) (fun c1 => ?_)
  refine J_iload_n (i := 1) (pc := 4) dX2_count_4 rfl rfl ?_
  refine J_bipush (v := nI (6)) (pc := 5) dX2_count_5 rfl ?_
  refine J_icmp_leN (tgt := 20) (pc := 7) dX2_count_7 (by decide) (by omega) (by omega) (fun c7 => ?_) (fun c7 => by exfalso; first | omega | simp_all)
  refine J_iload_n (i := 1) (pc := 20) dX2_count_20 rfl rfl ?_
  refine J_tableIn (off := 75) (tgt := 96) (pc := 21) dX2_count_21 (by decide) (by decide) (by decide +kernel) (by decide) ?_
  refine J_aload_n (i := 0) (pc := 96) dX2_count_96 rfl rfl ?_
  refine J_aload_n (i := 0) (pc := 97) dX2_count_97 rfl rfl ?_
  refine J_getf (k := 0) (pc := 98) dX2_count_98 flX2_12 g4 rfl ?_
  refine J_cVi (st := [.ref (1)]) (As := []) (pc := 101) dX2_count_101 okX0_checks q2_2 q2_3 q2_4 (rfl : vwCl[0]? = some _) b9 rfl (Nat.le_of_ble_eq_true rfl) (Nat.le_of_ble_eq_true rfl) (c_checks hB) ?_
  refine J_cVi (st := []) (As := [.int (nI (σ.1.2.1))]) (pc := 104) dX2_count_104 okX2_votedRight q2_113 q2_115 qs1_9 (rfl : vwCl[2]? = some _) g4 rfl (Nat.le_of_ble_eq_true rfl) (Nat.le_of_ble_eq_true rfl) (c_votedRight hG (by omega)) ?_
  refine J_iret (ty := .int) (pc := 107) dX2_count_107 rfl rfl ?_
  exact ⟨rfl, rfl⟩

set_option maxHeartbeats 2000000 in
set_option maxRecDepth 20000 in
theorem c_count5 {g : GT} {d : Nat} {h : MH} {σ : ST} {π : Nat → Nat} (hG : GP h σ π) : J g (d + 4) 0 0 mX2_count 0 (lv_args 0 [.ref 1, .int (nI (5))]) [] h (RI (nI (ctS σ 5)) h) := by
  obtain ⟨g1, g2, g3, g4, ⟨tf, g5, g5b⟩, g6, g7, g8⟩ := id hG
  obtain ⟨o1, o2, o3, o4⟩ := id g2
  have hB := g1
  have b9 := BH_2 g1
  obtain ⟨hn, hc9, hm5, hs2⟩ := id g1.1
  have hp9 := pw_le hn

  refine J_iload_n (i := 1) (pc := 0) dX2_count_0 rfl rfl ?_
  refine J_if_lt (tgt := 10) (pc := 1) dX2_count_1 (by decide) (fun c1 => absurd c1 (nI_pos (by decide))) (fun c1 => ?_)
  refine J_iload_n (i := 1) (pc := 4) dX2_count_4 rfl rfl ?_
  refine J_bipush (v := nI (6)) (pc := 5) dX2_count_5 rfl ?_
  refine J_icmp_leN (tgt := 20) (pc := 7) dX2_count_7 (by decide) (by omega) (by omega) (fun c7 => ?_) (fun c7 => by exfalso; first | omega | simp_all)
  refine J_iload_n (i := 1) (pc := 20) dX2_count_20 rfl rfl ?_
  refine J_tableIn (off := 87) (tgt := 108) (pc := 21) dX2_count_21 (by decide) (by decide) (by decide +kernel) (by decide) ?_
  refine J_aload_n (i := 0) (pc := 108) dX2_count_108 rfl rfl ?_
  refine J_getf (k := 4) (pc := 109) dX2_count_109 flX2_31 g4 rfl ?_
  refine J_iret (ty := .int) (pc := 112) dX2_count_112 rfl rfl ?_
  exact ⟨rfl, rfl⟩

set_option maxHeartbeats 2000000 in
set_option maxRecDepth 20000 in
theorem c_count6 {g : GT} {d : Nat} {h : MH} {σ : ST} {π : Nat → Nat} (hG : GP h σ π) : J g (d + 4) 0 0 mX2_count 0 (lv_args 0 [.ref 1, .int (nI (6))]) [] h (RI (nI (ctS σ 6)) h) := by
  obtain ⟨g1, g2, g3, g4, ⟨tf, g5, g5b⟩, g6, g7, g8⟩ := id hG
  obtain ⟨o1, o2, o3, o4⟩ := id g2
  have hB := g1
  have b9 := BH_2 g1
  obtain ⟨hn, hc9, hm5, hs2⟩ := id g1.1
  have hp9 := pw_le hn

  refine J_iload_n (i := 1) (pc := 0) dX2_count_0 rfl rfl ?_
  refine J_if_lt (tgt := 10) (pc := 1) dX2_count_1 (by decide) (fun c1 => absurd c1 (nI_pos (by decide))) (fun c1 => ?_)
  refine J_iload_n (i := 1) (pc := 4) dX2_count_4 rfl rfl ?_
  refine J_bipush (v := nI (6)) (pc := 5) dX2_count_5 rfl ?_
  refine J_icmp_leN (tgt := 20) (pc := 7) dX2_count_7 (by decide) (by omega) (by omega) (fun c7 => ?_) (fun c7 => by exfalso; first | omega | simp_all)
  refine J_iload_n (i := 1) (pc := 20) dX2_count_20 rfl rfl ?_
  refine J_tableOut (tgt := 113) (pc := 21) dX2_count_21 (by decide) (by decide) ?_
  refine J_aload_n (i := 0) (pc := 113) dX2_count_113 rfl rfl ?_
  refine J_getf (k := 5) (pc := 114) dX2_count_114 flX2_34 g4 rfl ?_
  refine J_iret (ty := .int) (pc := 117) dX2_count_117 rfl rfl ?_
  exact ⟨rfl, rfl⟩

def gnS (β : BT) (m x w : Nat) : Nat :=
  let a := gA β (gro β) (gro β &&& mkL β m x)
  let b := gB (gro β) (gro β &&& mkL β m x)
  if a = 0 then w else (if w = 0 then a else b) / max 1 (Nat.gcd a b)
def bsS (β : BT) (le w : Nat) : Option Nat := if w = 0 then (bestS β (gro β) le).map (fun n => n / 51) else (bestS β (gro β) le).map (fun n => n % 51)
theorem best_31 {β : BT} {s le : Nat} : ∀ n, bestS β s le = some n → n < 2 ^ 31 := fun n e => by
  have := (best_P e).1
  omega

set_option maxHeartbeats 2000000 in
set_option maxRecDepth 20000 in
theorem c_gain0 {g : GT} {d : Nat} {h : MH} {σ : ST} {π : Nat → Nat} (hG : GP h σ π) {m x : Nat} (hm : m < 3) (hx : x ≤ 50) : J g (d + 4) 0 0 mX2_gain 0 (lv_args 0 [.ref 1, .int (nI (m)), .int (nI (x)), .int (nI (0))]) [] h (RI (nI (gnS σ.1 m x 0)) h) := by
  obtain ⟨g1, g2, g3, g4, ⟨tf, g5, g5b⟩, g6, g7, g8⟩ := id hG
  obtain ⟨o1, o2, o3, o4⟩ := id g2
  have hB := g1
  have b9 := BH_2 g1
  obtain ⟨hn, hc9, hm5, hs2⟩ := id g1.1
  have hp9 := pw_le hn
  have hgr := gro_lt hB.1
  refine J_iload_n (i := 1) (pc := 0) dX2_gain_0 rfl rfl ?_
  refine J_if_lt (tgt := 9) (pc := 1) dX2_gain_1 (by decide) (fun c1 => absurd c1 (nI_pos (by omega))) (fun c1 => ?_)
  refine J_iload_n (i := 1) (pc := 4) dX2_gain_4 rfl rfl ?_
  refine J_iconst (v := nI (3)) (pc := 5) dX2_gain_5 rfl ?_
  refine J_icmp_ltN (tgt := 19) (pc := 6) dX2_gain_6 (by decide) (by omega) (by omega) (fun c6 => ?_) (fun c6 => by exfalso; first | omega | simp_all)
  refine J_iload_n (i := 3) (pc := 19) dX2_gain_19 rfl rfl ?_
  refine J_if_lt (tgt := 28) (pc := 20) dX2_gain_20 (by decide) (fun c20 => absurd c20 (nI_pos (by decide))) (fun c20 => ?_)
  refine J_iload_n (i := 3) (pc := 23) dX2_gain_23 rfl rfl ?_
  refine J_iconst (v := nI (1)) (pc := 24) dX2_gain_24 rfl ?_
  refine J_icmp_leN (tgt := 38) (pc := 25) dX2_gain_25 (by decide) (by omega) (by omega) (fun c25 => ?_) (fun c25 => by exfalso; first | omega | simp_all)
  refine J_iload_n (i := 2) (pc := 38) dX2_gain_38 rfl rfl ?_
  refine J_cSi (st := []) (As := [.int (nI (x))]) (pc := 39) dX2_gain_39 okX2_isMeasure q2_132 q2_133 rfl (Nat.le_of_ble_eq_true rfl) (Nat.le_of_ble_eq_true rfl) (c_isMeasureT (inZ_nI (by omega) (by omega) (by decide))) ?_
  refine J_if_neN (tgt := 55) (pc := 42) dX2_gain_42 (by decide) (by omega) (fun c42 => ?_) (fun c42 => by exfalso; first | omega | simp_all)
  refine J_aload_n (i := 0) (pc := 55) dX2_gain_55 rfl rfl ?_
  refine J_getf (k := 0) (pc := 56) dX2_gain_56 flX2_12 g4 rfl ?_
  refine J_cVi (st := []) (As := []) (pc := 59) dX2_gain_59 okX0_growing q2_83 q1_164 q1_165 (rfl : vwCl[0]? = some _) b9 rfl (Nat.le_of_ble_eq_true rfl) (Nat.le_of_ble_eq_true rfl) (c_growing hB) ?_
  refine J_istore (i := 4) (lv' := [(4, .int (nI (gro σ.1))), (0, .ref (1)), (1, .int (nI (m))), (2, .int (nI (x))), (3, .int (nI (0)))]) (pc := 62) dX2_gain_62 (by decide) rfl ?_
  refine J_aload_n (i := 0) (pc := 64) dX2_gain_64 rfl rfl ?_
  refine J_getf (k := 0) (pc := 65) dX2_gain_65 flX2_12 g4 rfl ?_
  refine J_iload (i := 4) (pc := 68) dX2_gain_68 rfl ?_
  refine J_iload_n (i := 1) (pc := 70) dX2_gain_70 rfl rfl ?_
  refine J_bipush (v := nI (51)) (pc := 71) dX2_gain_71 rfl ?_
  refine J_imulN (pc := 73) dX2_gain_73 ?_
  refine J_iload_n (i := 2) (pc := 74) dX2_gain_74 rfl rfl ?_
  refine J_iaddN (pc := 75) dX2_gain_75 ?_
  refine J_cVi (st := []) (As := [.int (nI (gro σ.1)), .int (nI (((m) * (51)) + x))]) (pc := 76) dX2_gain_76 okX0_lowOf q2_136 q1_197 q1_198 (rfl : vwCl[0]? = some _) b9 rfl (Nat.le_of_ble_eq_true rfl) (Nat.le_of_ble_eq_true rfl) (c_lowOf hB (by omega) (by omega)) ?_
  obtain ⟨low, elow⟩ : ∃ z : Nat, z = gro σ.1 &&& mkL σ.1 m x := ⟨_, rfl⟩
  rw [← elow]
  have hlow : low ≤ gro σ.1 := by rw [elow]; exact Nat.and_le_left
  refine J_istore (i := 5) (lv' := [(5, .int (nI (low))), (4, .int (nI (gro σ.1))), (0, .ref (1)), (1, .int (nI (m))), (2, .int (nI (x))), (3, .int (nI (0)))]) (pc := 79) dX2_gain_79 (by decide) rfl ?_
  refine J_aload_n (i := 0) (pc := 81) dX2_gain_81 rfl rfl ?_
  refine J_getf (k := 0) (pc := 82) dX2_gain_82 flX2_12 g4 rfl ?_
  refine J_iload (i := 4) (pc := 85) dX2_gain_85 rfl ?_
  refine J_iload (i := 5) (pc := 87) dX2_gain_87 rfl ?_
  refine J_cVi (st := []) (As := [.int (nI (gro σ.1)), .int (nI (low))]) (pc := 89) dX2_gain_89 okX0_gainAbove q2_137 q1_204 q1_205 (rfl : vwCl[0]? = some _) b9 rfl (Nat.le_of_ble_eq_true rfl) (Nat.le_of_ble_eq_true rfl) (c_gainAbove hB hgr elow) ?_
  obtain ⟨above, eabove⟩ : ∃ z : Nat, z = gA σ.1 (gro σ.1) low := ⟨_, rfl⟩
  rw [← eabove]
  have hab := gA_le σ.1 (gro σ.1) low
  rw [← eabove] at hab
  refine J_istore (i := 6) (lv' := [(6, .int (nI (above))), (5, .int (nI (low))), (4, .int (nI (gro σ.1))), (0, .ref (1)), (1, .int (nI (m))), (2, .int (nI (x))), (3, .int (nI (0)))]) (pc := 92) dX2_gain_92 (by decide) rfl ?_
  refine J_iload (i := 6) (pc := 94) dX2_gain_94 rfl ?_
  refine J_if_neN (tgt := 109) (pc := 96) dX2_gain_96 (by decide) (by omega) (fun c96 => ?_) (fun c96 => ?_)
  · skip
    have hz : gA σ.1 (gro σ.1) (gro σ.1 &&& mkL σ.1 m x) ≠ 0 := by rw [← elow, ← eabove]; exact c96
    refine J_iload (i := 4) (pc := 109) dX2_gain_109 rfl ?_
    refine J_iload (i := 5) (pc := 111) dX2_gain_111 rfl ?_
    refine J_cSi (st := []) (As := [.int (nI (gro σ.1)), .int (nI (low))]) (pc := 113) dX2_gain_113 okX2_gainBelow q2_138 q1_213 rfl (Nat.le_of_ble_eq_true rfl) (Nat.le_of_ble_eq_true rfl) (c_gainBelow hgr (by omega)) ?_
    obtain ⟨below, ebelow⟩ : ∃ z : Nat, z = gB (gro σ.1) low := ⟨_, rfl⟩
    rw [← ebelow]
    have hbe := gB_le (gro σ.1) low
    rw [← ebelow] at hbe
    refine J_istore (i := 7) (lv' := [(7, .int (nI (below))), (6, .int (nI (above))), (5, .int (nI (low))), (4, .int (nI (gro σ.1))), (0, .ref (1)), (1, .int (nI (m))), (2, .int (nI (x))), (3, .int (nI (0)))]) (pc := 116) dX2_gain_116 (by decide) rfl ?_
    refine J_iload_n (i := 3) (pc := 118) dX2_gain_118 rfl rfl ?_
    refine J_if_neN (tgt := 127) (pc := 119) dX2_gain_119 (by decide) (by omega) (fun c119 => by exfalso; first | omega | simp_all) (fun c119 => ?_)
    refine J_iload (i := 6) (pc := 122) dX2_gain_122 rfl ?_
    refine J_goto (tgt := 129) (pc := 124) dX2_gain_124 (by decide) ?_
    refine J_iload (i := 6) (pc := 129) dX2_gain_129 rfl ?_
    refine J_iload (i := 7) (pc := 131) dX2_gain_131 rfl ?_
    refine J_cSi (st := [.int (nI (above))]) (As := [.int (nI (above)), .int (nI (below))]) (pc := 133) dX2_gain_133 okX2_commonDivisor q2_139 q2_140 rfl (Nat.le_of_ble_eq_true rfl) (Nat.le_of_ble_eq_true rfl) (c_commonDivisor (k := 13) (by omega) (by omega) (by decide)) ?_
    have hgc : Nat.gcd above below ≤ above := Nat.gcd_le_left _ (by omega)
    refine J_idivN (pc := 136) dX2_gain_136 (by omega) (by omega) (by omega) ?_
    refine J_iret (ty := .int) (pc := 137) dX2_gain_137 rfl rfl ?_
    exact ⟨congrArg (fun z : Nat => (Sum.inl (some (Value.int (nI z))) : RT)) (by unfold gnS; rw [if_neg hz, ebelow, eabove, elow]; rfl), rfl⟩
  · skip
    have hz : gA σ.1 (gro σ.1) (gro σ.1 &&& mkL σ.1 m x) = 0 := by rw [← elow, ← eabove]; exact c96
    refine J_iload_n (i := 3) (pc := 99) dX2_gain_99 rfl rfl ?_
    refine J_if_neN (tgt := 107) (pc := 100) dX2_gain_100 (by decide) (by omega) (fun c100 => by exfalso; first | omega | simp_all) (fun c100 => ?_)
    refine J_iconst (v := nI (0)) (pc := 103) dX2_gain_103 rfl ?_
    refine J_goto (tgt := 108) (pc := 104) dX2_gain_104 (by decide) ?_
    refine J_iret (ty := .int) (pc := 108) dX2_gain_108 rfl rfl ?_
    exact ⟨congrArg (fun z : Nat => (Sum.inl (some (Value.int (nI z))) : RT)) (by unfold gnS; rw [if_pos hz]), rfl⟩

set_option maxHeartbeats 2000000 in
set_option maxRecDepth 20000 in
theorem c_gain1 {g : GT} {d : Nat} {h : MH} {σ : ST} {π : Nat → Nat} (hG : GP h σ π) {m x : Nat} (hm : m < 3) (hx : x ≤ 50) : J g (d + 4) 0 0 mX2_gain 0 (lv_args 0 [.ref 1, .int (nI (m)), .int (nI (x)), .int (nI (1))]) [] h (RI (nI (gnS σ.1 m x 1)) h) := by
  obtain ⟨g1, g2, g3, g4, ⟨tf, g5, g5b⟩, g6, g7, g8⟩ := id hG
  obtain ⟨o1, o2, o3, o4⟩ := id g2
  have hB := g1
  have b9 := BH_2 g1
  obtain ⟨hn, hc9, hm5, hs2⟩ := id g1.1
  have hp9 := pw_le hn
  have hgr := gro_lt hB.1
  refine J_iload_n (i := 1) (pc := 0) dX2_gain_0 rfl rfl ?_
  refine J_if_lt (tgt := 9) (pc := 1) dX2_gain_1 (by decide) (fun c1 => absurd c1 (nI_pos (by omega))) (fun c1 => ?_)
  refine J_iload_n (i := 1) (pc := 4) dX2_gain_4 rfl rfl ?_
  refine J_iconst (v := nI (3)) (pc := 5) dX2_gain_5 rfl ?_
  refine J_icmp_ltN (tgt := 19) (pc := 6) dX2_gain_6 (by decide) (by omega) (by omega) (fun c6 => ?_) (fun c6 => by exfalso; first | omega | simp_all)
  refine J_iload_n (i := 3) (pc := 19) dX2_gain_19 rfl rfl ?_
  refine J_if_lt (tgt := 28) (pc := 20) dX2_gain_20 (by decide) (fun c20 => absurd c20 (nI_pos (by decide))) (fun c20 => ?_)
  refine J_iload_n (i := 3) (pc := 23) dX2_gain_23 rfl rfl ?_
  refine J_iconst (v := nI (1)) (pc := 24) dX2_gain_24 rfl ?_
  refine J_icmp_leN (tgt := 38) (pc := 25) dX2_gain_25 (by decide) (by omega) (by omega) (fun c25 => ?_) (fun c25 => by exfalso; first | omega | simp_all)
  refine J_iload_n (i := 2) (pc := 38) dX2_gain_38 rfl rfl ?_
  refine J_cSi (st := []) (As := [.int (nI (x))]) (pc := 39) dX2_gain_39 okX2_isMeasure q2_132 q2_133 rfl (Nat.le_of_ble_eq_true rfl) (Nat.le_of_ble_eq_true rfl) (c_isMeasureT (inZ_nI (by omega) (by omega) (by decide))) ?_
  refine J_if_neN (tgt := 55) (pc := 42) dX2_gain_42 (by decide) (by omega) (fun c42 => ?_) (fun c42 => by exfalso; first | omega | simp_all)
  refine J_aload_n (i := 0) (pc := 55) dX2_gain_55 rfl rfl ?_
  refine J_getf (k := 0) (pc := 56) dX2_gain_56 flX2_12 g4 rfl ?_
  refine J_cVi (st := []) (As := []) (pc := 59) dX2_gain_59 okX0_growing q2_83 q1_164 q1_165 (rfl : vwCl[0]? = some _) b9 rfl (Nat.le_of_ble_eq_true rfl) (Nat.le_of_ble_eq_true rfl) (c_growing hB) ?_
  refine J_istore (i := 4) (lv' := [(4, .int (nI (gro σ.1))), (0, .ref (1)), (1, .int (nI (m))), (2, .int (nI (x))), (3, .int (nI (1)))]) (pc := 62) dX2_gain_62 (by decide) rfl ?_
  refine J_aload_n (i := 0) (pc := 64) dX2_gain_64 rfl rfl ?_
  refine J_getf (k := 0) (pc := 65) dX2_gain_65 flX2_12 g4 rfl ?_
  refine J_iload (i := 4) (pc := 68) dX2_gain_68 rfl ?_
  refine J_iload_n (i := 1) (pc := 70) dX2_gain_70 rfl rfl ?_
  refine J_bipush (v := nI (51)) (pc := 71) dX2_gain_71 rfl ?_
  refine J_imulN (pc := 73) dX2_gain_73 ?_
  refine J_iload_n (i := 2) (pc := 74) dX2_gain_74 rfl rfl ?_
  refine J_iaddN (pc := 75) dX2_gain_75 ?_
  refine J_cVi (st := []) (As := [.int (nI (gro σ.1)), .int (nI (((m) * (51)) + x))]) (pc := 76) dX2_gain_76 okX0_lowOf q2_136 q1_197 q1_198 (rfl : vwCl[0]? = some _) b9 rfl (Nat.le_of_ble_eq_true rfl) (Nat.le_of_ble_eq_true rfl) (c_lowOf hB (by omega) (by omega)) ?_
  obtain ⟨low, elow⟩ : ∃ z : Nat, z = gro σ.1 &&& mkL σ.1 m x := ⟨_, rfl⟩
  rw [← elow]
  have hlow : low ≤ gro σ.1 := by rw [elow]; exact Nat.and_le_left
  refine J_istore (i := 5) (lv' := [(5, .int (nI (low))), (4, .int (nI (gro σ.1))), (0, .ref (1)), (1, .int (nI (m))), (2, .int (nI (x))), (3, .int (nI (1)))]) (pc := 79) dX2_gain_79 (by decide) rfl ?_
  refine J_aload_n (i := 0) (pc := 81) dX2_gain_81 rfl rfl ?_
  refine J_getf (k := 0) (pc := 82) dX2_gain_82 flX2_12 g4 rfl ?_
  refine J_iload (i := 4) (pc := 85) dX2_gain_85 rfl ?_
  refine J_iload (i := 5) (pc := 87) dX2_gain_87 rfl ?_
  refine J_cVi (st := []) (As := [.int (nI (gro σ.1)), .int (nI (low))]) (pc := 89) dX2_gain_89 okX0_gainAbove q2_137 q1_204 q1_205 (rfl : vwCl[0]? = some _) b9 rfl (Nat.le_of_ble_eq_true rfl) (Nat.le_of_ble_eq_true rfl) (c_gainAbove hB hgr elow) ?_
  obtain ⟨above, eabove⟩ : ∃ z : Nat, z = gA σ.1 (gro σ.1) low := ⟨_, rfl⟩
  rw [← eabove]
  have hab := gA_le σ.1 (gro σ.1) low
  rw [← eabove] at hab
  refine J_istore (i := 6) (lv' := [(6, .int (nI (above))), (5, .int (nI (low))), (4, .int (nI (gro σ.1))), (0, .ref (1)), (1, .int (nI (m))), (2, .int (nI (x))), (3, .int (nI (1)))]) (pc := 92) dX2_gain_92 (by decide) rfl ?_
  refine J_iload (i := 6) (pc := 94) dX2_gain_94 rfl ?_
  refine J_if_neN (tgt := 109) (pc := 96) dX2_gain_96 (by decide) (by omega) (fun c96 => ?_) (fun c96 => ?_)
  · skip
    have hz : gA σ.1 (gro σ.1) (gro σ.1 &&& mkL σ.1 m x) ≠ 0 := by rw [← elow, ← eabove]; exact c96
    refine J_iload (i := 4) (pc := 109) dX2_gain_109 rfl ?_
    refine J_iload (i := 5) (pc := 111) dX2_gain_111 rfl ?_
    refine J_cSi (st := []) (As := [.int (nI (gro σ.1)), .int (nI (low))]) (pc := 113) dX2_gain_113 okX2_gainBelow q2_138 q1_213 rfl (Nat.le_of_ble_eq_true rfl) (Nat.le_of_ble_eq_true rfl) (c_gainBelow hgr (by omega)) ?_
    obtain ⟨below, ebelow⟩ : ∃ z : Nat, z = gB (gro σ.1) low := ⟨_, rfl⟩
    rw [← ebelow]
    have hbe := gB_le (gro σ.1) low
    rw [← ebelow] at hbe
    refine J_istore (i := 7) (lv' := [(7, .int (nI (below))), (6, .int (nI (above))), (5, .int (nI (low))), (4, .int (nI (gro σ.1))), (0, .ref (1)), (1, .int (nI (m))), (2, .int (nI (x))), (3, .int (nI (1)))]) (pc := 116) dX2_gain_116 (by decide) rfl ?_
    refine J_iload_n (i := 3) (pc := 118) dX2_gain_118 rfl rfl ?_
    refine J_if_neN (tgt := 127) (pc := 119) dX2_gain_119 (by decide) (by omega) (fun c119 => ?_) (fun c119 => by exfalso; first | omega | simp_all)
    refine J_iload (i := 7) (pc := 127) dX2_gain_127 rfl ?_
    refine J_iload (i := 6) (pc := 129) dX2_gain_129 rfl ?_
    refine J_iload (i := 7) (pc := 131) dX2_gain_131 rfl ?_
    refine J_cSi (st := [.int (nI (below))]) (As := [.int (nI (above)), .int (nI (below))]) (pc := 133) dX2_gain_133 okX2_commonDivisor q2_139 q2_140 rfl (Nat.le_of_ble_eq_true rfl) (Nat.le_of_ble_eq_true rfl) (c_commonDivisor (k := 13) (by omega) (by omega) (by decide)) ?_
    have hgc : Nat.gcd above below ≤ above := Nat.gcd_le_left _ (by omega)
    refine J_idivN (pc := 136) dX2_gain_136 (by omega) (by omega) (by omega) ?_
    refine J_iret (ty := .int) (pc := 137) dX2_gain_137 rfl rfl ?_
    exact ⟨congrArg (fun z : Nat => (Sum.inl (some (Value.int (nI z))) : RT)) (by unfold gnS; rw [if_neg hz, ebelow, eabove, elow]; rfl), rfl⟩
  · skip
    have hz : gA σ.1 (gro σ.1) (gro σ.1 &&& mkL σ.1 m x) = 0 := by rw [← elow, ← eabove]; exact c96
    refine J_iload_n (i := 3) (pc := 99) dX2_gain_99 rfl rfl ?_
    refine J_if_neN (tgt := 107) (pc := 100) dX2_gain_100 (by decide) (by omega) (fun c100 => ?_) (fun c100 => by exfalso; first | omega | simp_all)
    refine J_iconst (v := nI (1)) (pc := 107) dX2_gain_107 rfl ?_
    refine J_iret (ty := .int) (pc := 108) dX2_gain_108 rfl rfl ?_
    exact ⟨congrArg (fun z : Nat => (Sum.inl (some (Value.int (nI z))) : RT)) (by unfold gnS; rw [if_pos hz]), rfl⟩

set_option maxHeartbeats 2000000 in
set_option maxRecDepth 20000 in
theorem c_best0 {g : GT} {d : Nat} {h : MH} {σ : ST} {π : Nat → Nat} (hG : GP h σ π) : J g (d + 5) 0 0 mX2_best 0 (lv_args 0 [.ref 1, .int (nI (0))]) [] h (RI (enc (bsS σ.1 σ.2.1.2.2 0)) h) := by
  obtain ⟨g1, g2, g3, g4, ⟨tf, g5, g5b⟩, g6, g7, g8⟩ := id hG
  obtain ⟨o1, o2, o3, o4⟩ := id g2
  have hB := g1
  have b9 := BH_2 g1
  obtain ⟨hn, hc9, hm5, hs2⟩ := id g1.1
  have hp9 := pw_le hn

  refine J_iload_n (i := 1) (pc := 0) dX2_best_0 rfl rfl ?_
  refine J_if_lt (tgt := 9) (pc := 1) dX2_best_1 (by decide) (fun c1 => absurd c1 (nI_pos (by decide))) (fun c1 => ?_)
  refine J_iload_n (i := 1) (pc := 4) dX2_best_4 rfl rfl ?_
  refine J_iconst (v := nI (1)) (pc := 5) dX2_best_5 rfl ?_
  refine J_icmp_leN (tgt := 19) (pc := 6) dX2_best_6 (by decide) (by omega) (by omega) (fun c6 => ?_) (fun c6 => by exfalso; first | omega | simp_all)
  refine J_aload_n (i := 0) (pc := 19) dX2_best_19 rfl rfl ?_
  refine J_getf (k := 0) (pc := 20) dX2_best_20 flX2_12 g4 rfl ?_
  refine J_aload_n (i := 0) (pc := 23) dX2_best_23 rfl rfl ?_
  refine J_getf (k := 0) (pc := 24) dX2_best_24 flX2_12 g4 rfl ?_
  refine J_cVi (st := [.ref (2)]) (As := []) (pc := 27) dX2_best_27 okX0_growing q2_83 q1_164 q1_165 (rfl : vwCl[0]? = some _) b9 rfl (Nat.le_of_ble_eq_true rfl) (Nat.le_of_ble_eq_true rfl) (c_growing hB) ?_
  refine J_aload_n (i := 0) (pc := 30) dX2_best_30 rfl rfl ?_
  refine J_getf (k := 5) (pc := 31) dX2_best_31 flX2_34 g4 rfl ?_
  refine J_cVi (st := []) (As := [.int (nI (gro σ.1)), .int (nI (σ.2.1.2.2))]) (pc := 34) dX2_best_34 okX0_bestCut q2_146 q1_193 q1_194 (rfl : vwCl[0]? = some _) b9 rfl (Nat.le_of_ble_eq_true rfl) (Nat.le_of_ble_eq_true rfl) (c_bestCut hB (gro_lt hB.1) (by omega)) ?_
  refine J_istore_n (i := 2) (lv' := [(2, .int (enc (bestS σ.1 (gro σ.1) σ.2.1.2.2))), (0, .ref (1)), (1, .int (nI (0)))]) (pc := 37) dX2_best_37 rfl (by decide) rfl ?_
  refine J_iload_n (i := 1) (pc := 38) dX2_best_38 rfl rfl ?_
  refine J_if_neN (tgt := 49) (pc := 39) dX2_best_39 (by decide) (by omega) (fun c39 => by exfalso; first | omega | simp_all) (fun c39 => ?_)
  refine J_iload_n (i := 2) (pc := 42) dX2_best_42 rfl rfl ?_
  refine J_cSi (st := []) (As := [.int (enc (bestS σ.1 (gro σ.1) σ.2.1.2.2))]) (pc := 43) dX2_best_43 okX2_measureOfCut q2_147 q2_38 rfl (Nat.le_of_ble_eq_true rfl) (Nat.le_of_ble_eq_true rfl) (c_measureOfCut best_31) ?_
  refine J_goto (tgt := 53) (pc := 46) dX2_best_46 (by decide) ?_
  refine J_iret (ty := .int) (pc := 53) dX2_best_53 rfl rfl ?_
  exact ⟨rfl, rfl⟩

set_option maxHeartbeats 2000000 in
set_option maxRecDepth 20000 in
theorem c_best1 {g : GT} {d : Nat} {h : MH} {σ : ST} {π : Nat → Nat} (hG : GP h σ π) : J g (d + 5) 0 0 mX2_best 0 (lv_args 0 [.ref 1, .int (nI (1))]) [] h (RI (enc (bsS σ.1 σ.2.1.2.2 1)) h) := by
  obtain ⟨g1, g2, g3, g4, ⟨tf, g5, g5b⟩, g6, g7, g8⟩ := id hG
  obtain ⟨o1, o2, o3, o4⟩ := id g2
  have hB := g1
  have b9 := BH_2 g1
  obtain ⟨hn, hc9, hm5, hs2⟩ := id g1.1
  have hp9 := pw_le hn

  refine J_iload_n (i := 1) (pc := 0) dX2_best_0 rfl rfl ?_
  refine J_if_lt (tgt := 9) (pc := 1) dX2_best_1 (by decide) (fun c1 => absurd c1 (nI_pos (by decide))) (fun c1 => ?_)
  refine J_iload_n (i := 1) (pc := 4) dX2_best_4 rfl rfl ?_
  refine J_iconst (v := nI (1)) (pc := 5) dX2_best_5 rfl ?_
  refine J_icmp_leN (tgt := 19) (pc := 6) dX2_best_6 (by decide) (by omega) (by omega) (fun c6 => ?_) (fun c6 => by exfalso; first | omega | simp_all)
  refine J_aload_n (i := 0) (pc := 19) dX2_best_19 rfl rfl ?_
  refine J_getf (k := 0) (pc := 20) dX2_best_20 flX2_12 g4 rfl ?_
  refine J_aload_n (i := 0) (pc := 23) dX2_best_23 rfl rfl ?_
  refine J_getf (k := 0) (pc := 24) dX2_best_24 flX2_12 g4 rfl ?_
  refine J_cVi (st := [.ref (2)]) (As := []) (pc := 27) dX2_best_27 okX0_growing q2_83 q1_164 q1_165 (rfl : vwCl[0]? = some _) b9 rfl (Nat.le_of_ble_eq_true rfl) (Nat.le_of_ble_eq_true rfl) (c_growing hB) ?_
  refine J_aload_n (i := 0) (pc := 30) dX2_best_30 rfl rfl ?_
  refine J_getf (k := 5) (pc := 31) dX2_best_31 flX2_34 g4 rfl ?_
  refine J_cVi (st := []) (As := [.int (nI (gro σ.1)), .int (nI (σ.2.1.2.2))]) (pc := 34) dX2_best_34 okX0_bestCut q2_146 q1_193 q1_194 (rfl : vwCl[0]? = some _) b9 rfl (Nat.le_of_ble_eq_true rfl) (Nat.le_of_ble_eq_true rfl) (c_bestCut hB (gro_lt hB.1) (by omega)) ?_
  refine J_istore_n (i := 2) (lv' := [(2, .int (enc (bestS σ.1 (gro σ.1) σ.2.1.2.2))), (0, .ref (1)), (1, .int (nI (1)))]) (pc := 37) dX2_best_37 rfl (by decide) rfl ?_
  refine J_iload_n (i := 1) (pc := 38) dX2_best_38 rfl rfl ?_
  refine J_if_neN (tgt := 49) (pc := 39) dX2_best_39 (by decide) (by omega) (fun c39 => ?_) (fun c39 => by exfalso; first | omega | simp_all)
  refine J_iload_n (i := 2) (pc := 49) dX2_best_49 rfl rfl ?_
  refine J_cSi (st := []) (As := [.int (enc (bestS σ.1 (gro σ.1) σ.2.1.2.2))]) (pc := 50) dX2_best_50 okX2_numberOfCut q2_148 q2_45 rfl (Nat.le_of_ble_eq_true rfl) (Nat.le_of_ble_eq_true rfl) (c_numberOfCut best_31) ?_
  refine J_iret (ty := .int) (pc := 53) dX2_best_53 rfl rfl ?_
  exact ⟨rfl, rfl⟩
