-- the grove: advice, planting, felling
def adF (f : Nat → Nat) : Nat → Nat → Option (Nat × Nat) → Option (Nat × Nat)
  | 0, _, x => x
  | k + 1, m, x => adF f k (m + 1) (match x with
    | none => some (m, f m)
    | some (a, b) => if b < f m then some (m, f m) else some (a, b))
def adV (σ : ST) (m : Nat) : Nat := rgT σ.1 5 (grT σ.1 σ.2.1.2.2 5 m (gro σ.1)) σ.1.2.1
def adS (σ : ST) : Option Nat := if gro σ.1 = 0 then none else (adF (adV σ) 5 1 none).map (fun z => z.1)

theorem nI_nlem1 {n : Nat} (h : n < 2 ^ 31) : ¬ nI n ≤ -1 := by
  rw [Int32.le_iff_toInt_le, nI_toInt h, m32]
  omega
theorem adV_le (σ : ST) (m : Nat) (hS : 1 ≤ cnt (gro σ.1)) (hl : 1 ≤ σ.2.1.2.2) : adV σ m ≤ 1000 := by
  have h1 := rgT_le σ.1 5 (grT σ.1 σ.2.1.2.2 5 m (gro σ.1)) σ.1.2.1
  have h2 := nN_gr (β := σ.1) hl 5 m (gro σ.1) hS
  have h3 := cnt_le (gro σ.1)
  unfold adV
  omega

set_option maxHeartbeats 2000000 in
set_option maxRecDepth 20000 in
theorem ad_loop {g : GT} {d : Nat} {σ : ST} {π : Nat → Nat} {Q : RT → MH → Prop} (hg0 : gro σ.1 ≠ 0) : ∀ (k m : Nat) (h : MH) (x : Option (Nat × Nat)), m + k = 6 ∧ 1 ≤ m ∧ (∀ z, x = some z → z.2 ≤ 1000) → GP h σ π → (∀ h', Fr 1 52 h h' → GP h' σ π → Q (.inl (some (.int (enc ((adF (adV σ) k m x).map (fun z => z.1)))))) h') → J g (d + 6) 0 0 mX2_advise 21 [(4, .int (nI (m))), (3, .int (enc (x.map (fun z => z.2)))), (2, .int (enc (x.map (fun z => z.1)))), (0, .ref (1)), (1, .int (nI (gro σ.1)))] [] h Q := by
  intro k
  induction k with
  | zero =>
    intro m h x hm hG hk
    obtain ⟨g1, g2, g3, g4, ⟨tf, g5, g5b⟩, g6, g7, g8⟩ := id hG
    refine J_iload (i := 4) (pc := 21) dX2_advise_21 rfl ?_
    refine J_iconst (v := nI (5)) (pc := 23) dX2_advise_23 rfl ?_
    refine J_icmp_gtN (tgt := 83) (pc := 24) dX2_advise_24 (by decide) (by omega) (by omega) (fun c24 => ?_) (fun c24 => by exfalso; first | omega | simp_all)
    refine J_iload_n (i := 2) (pc := 83) dX2_advise_83 rfl rfl ?_
    refine J_iret (ty := .int) (pc := 84) dX2_advise_84 rfl rfl ?_
    exact hk h Fr_rfl hG
  | succ k ih =>
    intro m h x hm hG hk
    obtain ⟨g1, g2, g3, g4, ⟨tf, g5, g5b⟩, g6, g7, g8⟩ := id hG
    obtain ⟨o1, o2, o3, o4⟩ := id g2
    have hB := g1
    have b9 := BH_2 g1
    obtain ⟨hn, hc9, hm5, hs2⟩ := id g1.1
    have hp9 := pw_le hn
    obtain ⟨nt, pt, lt, cf, sf, gf, df, mf, rf, hT⟩ := g6
    have hgr := gro_lt hB.1
    have hc1 : 1 ≤ cnt (gro σ.1) := by rcases Nat.eq_zero_or_pos (cnt (gro σ.1)) with e | e; (· exact absurd ((cnt_0 hgr).mp e) hg0); (· exact e)
    have hav := adV_le σ m hc1 o3.1
    obtain ⟨hm1, hm2, hx1⟩ := hm
    cases x with
    | none =>

      refine J_iload (i := 4) (pc := 21) dX2_advise_21 rfl ?_
      refine J_iconst (v := nI (5)) (pc := 23) dX2_advise_23 rfl ?_
      refine J_icmp_gtN (tgt := 83) (pc := 24) dX2_advise_24 (by decide) (by omega) (by omega) (fun c24 => by exfalso; first | omega | simp_all) (fun c24 => ?_)
      refine J_aload_n (i := 0) (pc := 27) dX2_advise_27 rfl rfl ?_
      refine J_getf (k := 2) (pc := 28) dX2_advise_28 flX2_23 g4 rfl ?_
      refine J_aload_n (i := 0) (pc := 31) dX2_advise_31 rfl rfl ?_
      refine J_getf (k := 0) (pc := 32) dX2_advise_32 flX2_12 g4 rfl ?_
      refine J_iload_n (i := 1) (pc := 35) dX2_advise_35 rfl rfl ?_
      refine J_iload (i := 4) (pc := 36) dX2_advise_36 rfl ?_
      refine J_aload_n (i := 0) (pc := 38) dX2_advise_38 rfl rfl ?_
      refine J_getf (k := 5) (pc := 39) dX2_advise_39 flX2_34 g4 rfl ?_
      refine J_cVv (st := []) (As := [.ref (2), .int (nI (gro σ.1)), .int (nI (m)), .int (nI (σ.2.1.2.2))]) (pc := 42) dX2_advise_42 okX1_grow q1_168 q1_169 q1_170 (rfl : vwCl[1]? = some _) hT.1 rfl (Nat.le_of_ble_eq_true rfl) (Nat.le_of_ble_eq_true rfl) (c_grow (d := 5) hB hT (by decide) (by omega) (by omega) (by omega) (by omega) hgr hc1) (fun h_1 q_2 => ?_)
      obtain ⟨cf2, sf2, gf2, df2, mf2, fr2, hT2, hK2, hN2⟩ := q_2
      have hG2 := GP_tri hG (by decide) fr2 hT2
      obtain ⟨k1, k2, k3, k4, ⟨tf2, k5, k5b⟩, k6, k7, k8⟩ := id hG2.2
      have b92 := BH_2 k1
      refine J_aload_n (i := 0) (pc := 45) dX2_advise_45 rfl rfl ?_
      refine J_getf (k := 2) (pc := 46) dX2_advise_46 flX2_23 k4 rfl ?_
      refine J_aload_n (i := 0) (pc := 49) dX2_advise_49 rfl rfl ?_
      refine J_getf (k := 0) (pc := 50) dX2_advise_50 flX2_12 k4 rfl ?_
      refine J_aload_n (i := 0) (pc := 53) dX2_advise_53 rfl rfl ?_
      refine J_getf (k := 0) (pc := 54) dX2_advise_54 flX2_12 k4 rfl ?_
      refine J_cVi (st := [.ref (2), .ref (11)]) (As := []) (pc := 57) dX2_advise_57 okX0_checks q2_2 q2_3 q2_4 (rfl : vwCl[0]? = some _) b92 rfl (Nat.le_of_ble_eq_true rfl) (Nat.le_of_ble_eq_true rfl) (c_checks k1) ?_
      refine J_cVh (st := []) (As := [.ref (2), .int (nI (σ.1.2.1))]) (pc := 60) dX2_advise_60 okX1_rightAbout q2_84 q2_85 q2_86 (rfl : vwCl[1]? = some _) hT2.1 rfl (Nat.le_of_ble_eq_true rfl) (Nat.le_of_ble_eq_true rfl) (c_rightAbout k1 hT2 (by decide) hN2 hK2 (ok_gr σ.1 σ.2.1.2.2 5 m _) (by decide) rfl (by omega)) (fun h_3 q_4 => ?_)
      obtain ⟨mf3, fr3, hT3⟩ := q_4
      have hG3 := GP_tri hG2.2 (by decide) (Fr_up fr3 (by decide) (Nat.le_refl _)) hT3
      refine J_istore (i := 5) (lv' := [(5, .int (nI (adV σ m))), (4, .int (nI (m))), (3, .int (-1)), (2, .int (-1)), (0, .ref (1)), (1, .int (nI (gro σ.1)))]) (pc := 63) dX2_advise_63 (by decide) rfl ?_
      refine J_iload (i := 5) (pc := 65) dX2_advise_65 rfl ?_
      refine J_iload_n (i := 3) (pc := 67) dX2_advise_67 rfl rfl ?_
      refine J_icmp_le (tgt := 77) (pc := 68) dX2_advise_68 (by decide) (fun c68 => absurd c68 (nI_nlem1 (by omega))) (fun c68 => ?_)
      refine J_iload (i := 5) (pc := 71) dX2_advise_71 rfl ?_
      refine J_istore_n (i := 3) (lv' := [(3, .int (nI (adV σ m))), (5, .int (nI (adV σ m))), (4, .int (nI (m))), (2, .int (-1)), (0, .ref (1)), (1, .int (nI (gro σ.1)))]) (pc := 73) dX2_advise_73 rfl (by decide) rfl ?_
      refine J_iload (i := 4) (pc := 74) dX2_advise_74 rfl ?_
      refine J_istore_n (i := 2) (lv' := [(2, .int (nI (m))), (3, .int (nI (adV σ m))), (5, .int (nI (adV σ m))), (4, .int (nI (m))), (0, .ref (1)), (1, .int (nI (gro σ.1)))]) (pc := 76) dX2_advise_76 rfl (by decide) rfl ?_
      refine J_iinc (i := 4) (v := nI (m + 1)) (lv' := [(4, .int (nI (m + 1))), (2, .int (nI (m))), (3, .int (nI (adV σ m))), (5, .int (nI (adV σ m))), (0, .ref (1)), (1, .int (nI (gro σ.1)))]) (pc := 77) dX2_advise_77 rfl (nI_add (m) 1) (by decide) rfl ?_
      refine J_goto (tgt := 21) (pc := 80) dX2_advise_80 (by decide) ?_
      refine J_sub (lv' := [(4, .int (nI (m + 1))), (3, .int (nI (adV σ m))), (2, .int (nI (m))), (0, .ref (1)), (1, .int (nI (gro σ.1)))]) [0, 2, 1, 4, 5] rfl ?_
      rw [adF] at hk
      exact ih (m + 1) h_3 (some (m, adV σ m)) ⟨by omega, by omega, fun z e => by cases e; omega⟩ hG3.2 (fun h' f9 g9 => hk h' (Fr_tr hG2.1 (Fr_tr hG3.1 f9)) g9)
    | some ab =>
      obtain ⟨a, b⟩ := ab
      have hb9 : b ≤ 1000 := hx1 _ rfl

      refine J_iload (i := 4) (pc := 21) dX2_advise_21 rfl ?_
      refine J_iconst (v := nI (5)) (pc := 23) dX2_advise_23 rfl ?_
      refine J_icmp_gtN (tgt := 83) (pc := 24) dX2_advise_24 (by decide) (by omega) (by omega) (fun c24 => by exfalso; first | omega | simp_all) (fun c24 => ?_)
      refine J_aload_n (i := 0) (pc := 27) dX2_advise_27 rfl rfl ?_
      refine J_getf (k := 2) (pc := 28) dX2_advise_28 flX2_23 g4 rfl ?_
      refine J_aload_n (i := 0) (pc := 31) dX2_advise_31 rfl rfl ?_
      refine J_getf (k := 0) (pc := 32) dX2_advise_32 flX2_12 g4 rfl ?_
      refine J_iload_n (i := 1) (pc := 35) dX2_advise_35 rfl rfl ?_
      refine J_iload (i := 4) (pc := 36) dX2_advise_36 rfl ?_
      refine J_aload_n (i := 0) (pc := 38) dX2_advise_38 rfl rfl ?_
      refine J_getf (k := 5) (pc := 39) dX2_advise_39 flX2_34 g4 rfl ?_
      refine J_cVv (st := []) (As := [.ref (2), .int (nI (gro σ.1)), .int (nI (m)), .int (nI (σ.2.1.2.2))]) (pc := 42) dX2_advise_42 okX1_grow q1_168 q1_169 q1_170 (rfl : vwCl[1]? = some _) hT.1 rfl (Nat.le_of_ble_eq_true rfl) (Nat.le_of_ble_eq_true rfl) (c_grow (d := 5) hB hT (by decide) (by omega) (by omega) (by omega) (by omega) hgr hc1) (fun h_1 q_2 => ?_)
      obtain ⟨cf2, sf2, gf2, df2, mf2, fr2, hT2, hK2, hN2⟩ := q_2
      have hG2 := GP_tri hG (by decide) fr2 hT2
      obtain ⟨k1, k2, k3, k4, ⟨tf2, k5, k5b⟩, k6, k7, k8⟩ := id hG2.2
      have b92 := BH_2 k1
      refine J_aload_n (i := 0) (pc := 45) dX2_advise_45 rfl rfl ?_
      refine J_getf (k := 2) (pc := 46) dX2_advise_46 flX2_23 k4 rfl ?_
      refine J_aload_n (i := 0) (pc := 49) dX2_advise_49 rfl rfl ?_
      refine J_getf (k := 0) (pc := 50) dX2_advise_50 flX2_12 k4 rfl ?_
      refine J_aload_n (i := 0) (pc := 53) dX2_advise_53 rfl rfl ?_
      refine J_getf (k := 0) (pc := 54) dX2_advise_54 flX2_12 k4 rfl ?_
      refine J_cVi (st := [.ref (2), .ref (11)]) (As := []) (pc := 57) dX2_advise_57 okX0_checks q2_2 q2_3 q2_4 (rfl : vwCl[0]? = some _) b92 rfl (Nat.le_of_ble_eq_true rfl) (Nat.le_of_ble_eq_true rfl) (c_checks k1) ?_
      refine J_cVh (st := []) (As := [.ref (2), .int (nI (σ.1.2.1))]) (pc := 60) dX2_advise_60 okX1_rightAbout q2_84 q2_85 q2_86 (rfl : vwCl[1]? = some _) hT2.1 rfl (Nat.le_of_ble_eq_true rfl) (Nat.le_of_ble_eq_true rfl) (c_rightAbout k1 hT2 (by decide) hN2 hK2 (ok_gr σ.1 σ.2.1.2.2 5 m _) (by decide) rfl (by omega)) (fun h_3 q_4 => ?_)
      obtain ⟨mf3, fr3, hT3⟩ := q_4
      have hG3 := GP_tri hG2.2 (by decide) (Fr_up fr3 (by decide) (Nat.le_refl _)) hT3
      refine J_istore (i := 5) (lv' := [(5, .int (nI (adV σ m))), (4, .int (nI (m))), (3, .int (nI (b))), (2, .int (nI (a))), (0, .ref (1)), (1, .int (nI (gro σ.1)))]) (pc := 63) dX2_advise_63 (by decide) rfl ?_
      refine J_iload (i := 5) (pc := 65) dX2_advise_65 rfl ?_
      refine J_iload_n (i := 3) (pc := 67) dX2_advise_67 rfl rfl ?_
      refine J_icmp_leN (tgt := 77) (pc := 68) dX2_advise_68 (by decide) (by omega) (by omega) (fun c68 => ?_) (fun c68 => ?_)
      · skip
        refine J_iinc (i := 4) (v := nI (m + 1)) (lv' := [(4, .int (nI (m + 1))), (5, .int (nI (adV σ m))), (3, .int (nI (b))), (2, .int (nI (a))), (0, .ref (1)), (1, .int (nI (gro σ.1)))]) (pc := 77) dX2_advise_77 rfl (nI_add (m) 1) (by decide) rfl ?_
        refine J_goto (tgt := 21) (pc := 80) dX2_advise_80 (by decide) ?_
        refine J_sub (lv' := [(4, .int (nI (m + 1))), (3, .int (nI (b))), (2, .int (nI (a))), (0, .ref (1)), (1, .int (nI (gro σ.1)))]) [0, 2, 3, 4, 5] rfl ?_
        rw [adF, if_neg (Nat.not_lt.mpr c68)] at hk
        exact ih (m + 1) h_3 (some (a, b)) ⟨by omega, by omega, fun z e => by cases e; omega⟩ hG3.2 (fun h' f9 g9 => hk h' (Fr_tr hG2.1 (Fr_tr hG3.1 f9)) g9)
      · skip
        refine J_iload (i := 5) (pc := 71) dX2_advise_71 rfl ?_
        refine J_istore_n (i := 3) (lv' := [(3, .int (nI (adV σ m))), (5, .int (nI (adV σ m))), (4, .int (nI (m))), (2, .int (nI (a))), (0, .ref (1)), (1, .int (nI (gro σ.1)))]) (pc := 73) dX2_advise_73 rfl (by decide) rfl ?_
        refine J_iload (i := 4) (pc := 74) dX2_advise_74 rfl ?_
        refine J_istore_n (i := 2) (lv' := [(2, .int (nI (m))), (3, .int (nI (adV σ m))), (5, .int (nI (adV σ m))), (4, .int (nI (m))), (0, .ref (1)), (1, .int (nI (gro σ.1)))]) (pc := 76) dX2_advise_76 rfl (by decide) rfl ?_
        refine J_iinc (i := 4) (v := nI (m + 1)) (lv' := [(4, .int (nI (m + 1))), (2, .int (nI (m))), (3, .int (nI (adV σ m))), (5, .int (nI (adV σ m))), (0, .ref (1)), (1, .int (nI (gro σ.1)))]) (pc := 77) dX2_advise_77 rfl (nI_add (m) 1) (by decide) rfl ?_
        refine J_goto (tgt := 21) (pc := 80) dX2_advise_80 (by decide) ?_
        refine J_sub (lv' := [(4, .int (nI (m + 1))), (3, .int (nI (adV σ m))), (2, .int (nI (m))), (0, .ref (1)), (1, .int (nI (gro σ.1)))]) [0, 2, 1, 4, 5] rfl ?_
        rw [adF, if_pos c68] at hk
        exact ih (m + 1) h_3 (some (m, adV σ m)) ⟨by omega, by omega, fun z e => by cases e; omega⟩ hG3.2 (fun h' f9 g9 => hk h' (Fr_tr hG2.1 (Fr_tr hG3.1 f9)) g9)

set_option maxHeartbeats 2000000 in
set_option maxRecDepth 20000 in
theorem c_advise {g : GT} {d : Nat} {h : MH} {σ : ST} {π : Nat → Nat} (hG : GP h σ π) : J g (d + 6) 0 0 mX2_advise 0 (lv_args 0 [.ref 1]) [] h (RH (enc (adS σ)) (fun h' => Fr 1 52 h h' ∧ GP h' σ π)) := by
  obtain ⟨g1, g2, g3, g4, ⟨tf, g5, g5b⟩, g6, g7, g8⟩ := id hG
  obtain ⟨o1, o2, o3, o4⟩ := id g2
  have hB := g1
  have b9 := BH_2 g1
  obtain ⟨hn, hc9, hm5, hs2⟩ := id g1.1
  have hp9 := pw_le hn
  have hgr := gro_lt hB.1
  refine J_aload_n (i := 0) (pc := 0) dX2_advise_0 rfl rfl ?_
  refine J_getf (k := 0) (pc := 1) dX2_advise_1 flX2_12 g4 rfl ?_
  refine J_cVi (st := []) (As := []) (pc := 4) dX2_advise_4 okX0_growing q2_83 q1_164 q1_165 (rfl : vwCl[0]? = some _) b9 rfl (Nat.le_of_ble_eq_true rfl) (Nat.le_of_ble_eq_true rfl) (c_growing hB) ?_
  refine J_istore_n (i := 1) (lv' := [(1, .int (nI (gro σ.1))), (0, .ref (1))]) (pc := 7) dX2_advise_7 rfl (by decide) rfl ?_
  refine J_iload_n (i := 1) (pc := 8) dX2_advise_8 rfl rfl ?_
  refine J_if_neN (tgt := 14) (pc := 9) dX2_advise_9 (by decide) (by omega) (fun c9 => ?_) (fun c9 => ?_)
  · skip
    refine J_iconst (v := (-1)) (pc := 14) dX2_advise_14 rfl ?_
    refine J_istore_n (i := 2) (lv' := [(2, .int (-1)), (1, .int (nI (gro σ.1))), (0, .ref (1))]) (pc := 15) dX2_advise_15 rfl (by decide) rfl ?_
    refine J_iconst (v := (-1)) (pc := 16) dX2_advise_16 rfl ?_
    refine J_istore_n (i := 3) (lv' := [(3, .int (-1)), (2, .int (-1)), (1, .int (nI (gro σ.1))), (0, .ref (1))]) (pc := 17) dX2_advise_17 rfl (by decide) rfl ?_
    refine J_iconst (v := nI (1)) (pc := 18) dX2_advise_18 rfl ?_
    refine J_istore (i := 4) (lv' := [(4, .int (nI (1))), (3, .int (-1)), (2, .int (-1)), (1, .int (nI (gro σ.1))), (0, .ref (1))]) (pc := 19) dX2_advise_19 (by decide) rfl ?_
    refine J_sub (lv' := [(4, .int (nI (1))), (3, .int (-1)), (2, .int (-1)), (0, .ref (1)), (1, .int (nI (gro σ.1)))]) [0, 1, 2, 4, 3] rfl ?_
    refine ad_loop c9 5 1 h none ⟨rfl, Nat.le_refl 1, fun z e => by cases e⟩ hG ?_
    intro h' f9 g9
    exact ⟨congrArg (fun z : Int32 => (Sum.inl (some (Value.int z)) : RT)) (by rw [adS, if_neg c9]), f9, g9⟩
  · skip
    refine J_iconst (v := (-1)) (pc := 12) dX2_advise_12 rfl ?_
    refine J_iret (ty := .int) (pc := 13) dX2_advise_13 rfl rfl ?_
    exact ⟨congrArg (fun z : Int32 => (Sum.inl (some (Value.int z)) : RT)) (by rw [adS, if_pos c9]; rfl), Fr_rfl, hG⟩

theorem gb_lt {β : BT} (hW : WF β) (P : Nat) (L : Int32) : gbS β P L < 2 ^ 20 := Nat.lt_of_le_of_lt (gbF_le P L β.1 0 (gro β)) (gro_lt hW)

theorem GP_plant {h h' : MH} {σ : ST} {π : Nat → Nat} {T : TR 5} {pa lf : Int32} (hG : GP h σ π) (hk : σ.2.1.1 < 5) (k1 : Fr 1 1 h h' ∨ True) (hcell : h'.2 1 = some (oB 2 [.ref 2, .ref 10, .ref 11, .int (nI (σ.2.1.1 + 1)), .int (nI σ.2.1.2.1), .int (nI σ.2.1.2.2)]))
    (k : h'.1 = h.1 ∧ ∀ i, i ≠ 1 → (i < π σ.2.1.1 ∨ π σ.2.1.1 + 6 < i) → h'.2 i = h.2 i) (hT : TT h' (π σ.2.1.1) T pa lf) (ok : okT 5 T ∧ nN 5 T ≤ 39) : Fr 1 52 h h' ∧ GP h' (σ.1, (σ.2.1.1 + 1, σ.2.1.2.1, σ.2.1.2.2), va_up σ.2.2.1 σ.2.1.1 T, va_up σ.2.2.2.1 σ.2.1.1 pa, va_up σ.2.2.2.2 σ.2.1.1 lf) π := by
  obtain ⟨g1, g2, g3, g4, ⟨f, g5, g5b⟩, g6, g7, g8⟩ := id hG
  have hp := SL_ge g3 hk
  have hto : ∀ t, (t + 6 < π σ.2.1.1 ∨ π σ.2.1.1 + 6 < t) → 10 < t → (TA h t → TA h' t) ∧ ∀ tr pa le, TT h t tr pa le → TT h' t tr pa le := by
    intro t ht ht2
    have hh : ∀ n pa le cf sf gf df mf rf, TO h t n pa le cf sf gf df mf rf → TO h' t n pa le cf sf gf df mf rf := by
      intro n pa le cf sf gf df mf rf hT
      obtain ⟨k0, k1, k2, k3, k4, k5, k6⟩ := hT
      exact ⟨(k.2 _ (by omega) (by omega)).trans k0, (k.2 _ (by omega) (by omega)).trans k1, (k.2 _ (by omega) (by omega)).trans k2, (k.2 _ (by omega) (by omega)).trans k3, (k.2 _ (by omega) (by omega)).trans k4, (k.2 _ (by omega) (by omega)).trans k5, (k.2 _ (by omega) (by omega)).trans k6⟩
    refine ⟨?_, ?_⟩
    · rintro ⟨n, pa, le, cf, sf, gf, df, mf, rf, hT⟩
      exact ⟨n, pa, le, cf, sf, gf, df, mf, rf, hh _ _ _ _ _ _ _ _ _ hT⟩
    · rintro tr pa le ⟨cf, sf, gf, df, mf, rf, hT, hK⟩
      exact ⟨cf, sf, gf, df, mf, rf, hh _ _ _ _ _ _ _ _ _ hT, hK⟩
  refine ⟨⟨k.1, fun i hi => k.2 i (by omega) (by omega)⟩, ?_, ⟨by show σ.2.1.1 + 1 ≤ 5; omega, g2.2.1, g2.2.2.1, ?_⟩, g3, hcell, ⟨f, (k.2 _ (by omega) (by omega)).trans g5, g5b⟩, (hto 11 (by omega) (by omega)).1 g6, ?_, ?_⟩
  · obtain ⟨hW, mf, sf, tf, lf, b2, b3, bm, b7, b8, b9, r⟩ := g1
    exact ⟨hW, mf, sf, tf, lf, (k.2 _ (by omega) (by omega)).trans b2, (k.2 _ (by omega) (by omega)).trans b3, fun m hm => (k.2 _ (by omega) (by omega)).trans (bm m hm), (k.2 _ (by omega) (by omega)).trans b7, (k.2 _ (by omega) (by omega)).trans b8, (k.2 _ (by omega) (by omega)).trans b9, r⟩
  · intro i hi
    have hi2 : i < σ.2.1.1 + 1 := hi
    show okT 5 (va_up σ.2.2.1 σ.2.1.1 T i) ∧ nN 5 (va_up σ.2.2.1 σ.2.1.1 T i) ≤ 39
    by_cases e : i = σ.2.1.1
    · rw [e, va_up_self]
      exact ok
    · rw [va_up_ne _ _ e]
      exact g2.2.2.2 i (by omega)
  · intro i hi
    by_cases e : i = σ.2.1.1
    · rw [e]
      exact TT_TA hT
    · have := SL_ne g3 hi hk e
      have := SL_ge g3 hi
      exact (hto (π i) (by omega) (by omega)).1 (g7 i hi)
  · intro i hi
    have hi2 : i < σ.2.1.1 + 1 := hi
    show TT h' (π i) (va_up σ.2.2.1 σ.2.1.1 T i) (va_up σ.2.2.2.1 σ.2.1.1 pa i) (va_up σ.2.2.2.2 σ.2.1.1 lf i)
    by_cases e : i = σ.2.1.1
    · rw [e, va_up_self, va_up_self, va_up_self]
      exact hT
    · rw [va_up_ne _ _ e, va_up_ne _ _ e, va_up_ne _ _ e]
      have := SL_ne g3 (show i < 5 by omega) hk e
      have := SL_ge g3 (show i < 5 by omega)
      exact (hto (π i) (by omega) (by omega)).2 _ _ _ (g8 i (by omega))

set_option maxHeartbeats 2000000 in
set_option maxRecDepth 20000 in
theorem c_plant {g : GT} {d : Nat} {h : MH} {σ : ST} {π : Nat → Nat} (hG : GP h σ π) {P : Nat} {L : Int32} (hP1 : 1 ≤ P) (hP : P ≤ 5) (hL1 : -1 ≤ L.toInt) (hL : L.toInt < (P : Int)) (hk5 : σ.2.1.1 < 5) (hg0 : gbS σ.1 P L ≠ 0) : J g (d + 6) 0 0 mX2_plant 0 (lv_args 0 [.ref 1, .int (nI P), .int L]) [] h (RH (nI σ.2.1.1) (fun h' => Fr 1 52 h h' ∧ GP h' (σ.1, (σ.2.1.1 + 1, σ.2.1.2.1, σ.2.1.2.2), va_up σ.2.2.1 σ.2.1.1 (grT σ.1 σ.2.1.2.2 5 σ.2.1.2.1 (gbS σ.1 P L)), va_up σ.2.2.2.1 σ.2.1.1 (nI P), va_up σ.2.2.2.2 σ.2.1.1 L) π)) := by
  obtain ⟨g1, g2, g3, g4, ⟨tf, g5, g5b⟩, g6, g7, g8⟩ := id hG
  obtain ⟨o1, o2, o3, o4⟩ := id g2
  have hB := g1
  have b9 := BH_2 g1
  obtain ⟨hn, hc9, hm5, hs2⟩ := id g1.1
  have hp9 := pw_le hn
  have hj5 : σ.2.1.1 < 5 := hk5
  obtain ⟨nt, pt, lt, cf, sf, gf, df, mf, rf, hT⟩ := g7 σ.2.1.1 hj5
  obtain ⟨p18, p46, fs, hfs⟩ := GP_tr hG hj5
  have hgb := gb_lt hB.1 P L
  have hc1 : 1 ≤ cnt (gbS σ.1 P L) := by rcases Nat.eq_zero_or_pos (cnt (gbS σ.1 P L)) with e | e; (· exact absurd ((cnt_0 hgb).mp e) hg0); (· exact e)
  refine J_iload_n (i := 1) (pc := 0) dX2_plant_0 rfl rfl ?_
  refine J_iconst (v := nI (1)) (pc := 1) dX2_plant_1 rfl ?_
  refine J_icmp_ltN (tgt := 10) (pc := 2) dX2_plant_2 (by decide) (by omega) (by omega) (fun c2 => by exfalso; first | omega | simp_all) (fun c2 => ?_)
  refine J_iload_n (i := 1) (pc := 5) dX2_plant_5 rfl rfl ?_
  refine J_iconst (v := nI (5)) (pc := 6) dX2_plant_6 rfl ?_
  refine J_icmp_leN (tgt := 20) (pc := 7) dX2_plant_7 (by decide) (by omega) (by omega) (fun c7 => ?_) (fun c7 => by exfalso; first | omega | simp_all)
  refine J_iload_n (i := 2) (pc := 20) dX2_plant_20 rfl rfl ?_
  refine J_iconst (v := (-1)) (pc := 21) dX2_plant_21 rfl ?_
  refine J_icmp_lt (tgt := 30) (pc := 22) dX2_plant_22 (by decide) (fun c22 => absurd c22 (by rw [Int32.lt_iff_toInt_lt, m32]; omega)) (fun c22 => ?_)
  refine J_iload_n (i := 2) (pc := 25) dX2_plant_25 rfl rfl ?_
  refine J_iload_n (i := 1) (pc := 26) dX2_plant_26 rfl rfl ?_
  refine J_icmp_lt (tgt := 40) (pc := 27) dX2_plant_27 (by decide) (fun c27 => ?_) (fun c27 => absurd c27 (fun q => q (by rw [Int32.lt_iff_toInt_lt, nI_toInt (by omega)]; omega)))
  refine J_aload_n (i := 0) (pc := 40) dX2_plant_40 rfl rfl ?_
  refine J_getf (k := 3) (pc := 41) dX2_plant_41 flX2_27 g4 rfl ?_
  refine J_iconst (v := nI (5)) (pc := 44) dX2_plant_44 rfl ?_
  refine J_icmp_ltN (tgt := 58) (pc := 45) dX2_plant_45 (by decide) (by omega) (by omega) (fun c45 => ?_) (fun c45 => by exfalso; first | omega | simp_all)
  refine J_aload_n (i := 0) (pc := 58) dX2_plant_58 rfl rfl ?_
  refine J_getf (k := 0) (pc := 59) dX2_plant_59 flX2_12 g4 rfl ?_
  refine J_iload_n (i := 1) (pc := 62) dX2_plant_62 rfl rfl ?_
  refine J_iload_n (i := 2) (pc := 63) dX2_plant_63 rfl rfl ?_
  refine J_cVi (st := []) (As := [.int (nI (P)), .int (L)]) (pc := 64) dX2_plant_64 okX0_growingBut q1_159 q1_160 q1_161 (rfl : vwCl[0]? = some _) b9 rfl (Nat.le_of_ble_eq_true rfl) (Nat.le_of_ble_eq_true rfl) (c_growingBut hB (by omega) (by omega)) ?_
  refine J_istore_n (i := 3) (lv' := [(3, .int (nI (gbS σ.1 P L))), (0, .ref (1)), (1, .int (nI (P))), (2, .int (L))]) (pc := 67) dX2_plant_67 rfl (by decide) rfl ?_
  refine J_iload_n (i := 3) (pc := 68) dX2_plant_68 rfl rfl ?_
  refine J_if_neN (tgt := 82) (pc := 69) dX2_plant_69 (by decide) (by omega) (fun c69 => ?_) (fun c69 => absurd c69 (fun q => hg0 q))
  refine J_aload_n (i := 0) (pc := 82) dX2_plant_82 rfl rfl ?_
  refine J_getf (k := 1) (pc := 83) dX2_plant_83 flX2_18 g4 rfl ?_
  refine J_aload_n (i := 0) (pc := 86) dX2_plant_86 rfl rfl ?_
  refine J_getf (k := 3) (pc := 87) dX2_plant_87 flX2_27 g4 rfl ?_
  refine J_aald (j := σ.2.1.1) (b := π σ.2.1.1) (pc := 90) dX2_plant_90 (by decide) g5 rfl (by omega) (by omega) (g5b _ hj5) ?_
  refine J_astore (i := 4) (lv' := [(4, .ref (π σ.2.1.1)), (3, .int (nI (gbS σ.1 P L))), (0, .ref (1)), (1, .int (nI (P))), (2, .int (L))]) (pc := 91) dX2_plant_91 (by decide) rfl ?_
  refine J_aload (i := 4) (pc := 93) dX2_plant_93 rfl ?_
  refine J_aload_n (i := 0) (pc := 95) dX2_plant_95 rfl rfl ?_
  refine J_getf (k := 0) (pc := 96) dX2_plant_96 flX2_12 g4 rfl ?_
  refine J_iload_n (i := 3) (pc := 99) dX2_plant_99 rfl rfl ?_
  refine J_aload_n (i := 0) (pc := 100) dX2_plant_100 rfl rfl ?_
  refine J_getf (k := 4) (pc := 101) dX2_plant_101 flX2_31 g4 rfl ?_
  refine J_aload_n (i := 0) (pc := 104) dX2_plant_104 rfl rfl ?_
  refine J_getf (k := 5) (pc := 105) dX2_plant_105 flX2_34 g4 rfl ?_
  refine J_cVv (st := []) (As := [.ref (2), .int (nI (gbS σ.1 P L)), .int (nI (σ.2.1.2.1)), .int (nI (σ.2.1.2.2))]) (pc := 108) dX2_plant_108 okX1_grow q1_168 q1_169 q1_170 (rfl : vwCl[1]? = some _) hfs rfl (Nat.le_of_ble_eq_true rfl) (Nat.le_of_ble_eq_true rfl) (c_grow (d := 5) hB hT (by omega) (by omega) (by omega) (by omega) (by omega) hgb hc1) (fun h_1 q_2 => ?_)
  obtain ⟨cf2, sf2, gf2, df2, mf2, fr2, hT2, hK2, hN2⟩ := q_2
  have k4 := (fr2.2 1 (by omega)).trans g4
  refine J_aload (i := 4) (pc := 111) dX2_plant_111 rfl ?_
  refine J_iload_n (i := 1) (pc := 113) dX2_plant_113 rfl rfl ?_
  refine J_iload_n (i := 2) (pc := 114) dX2_plant_114 rfl rfl ?_
  refine J_cVv (st := []) (As := [.int (nI (P)), .int (L)]) (pc := 115) dX2_plant_115 okX1_remember q1_225 q1_226 q1_227 (rfl : vwCl[1]? = some _) hT2.1 rfl (Nat.le_of_ble_eq_true rfl) (Nat.le_of_ble_eq_true rfl) (c_remember (pa' := nI P) (le' := L) hT2) (fun h_3 q_4 => ?_)
  obtain ⟨fr3, hT3⟩ := q_4
  have k42 := (fr3.2 1 (by omega)).trans k4
  refine J_aload_n (i := 0) (pc := 118) dX2_plant_118 rfl rfl ?_
  refine J_dup (pc := 119) dX2_plant_119 rfl ?_
  refine J_getf (k := 3) (pc := 120) dX2_plant_120 flX2_27 k42 rfl ?_
  refine J_iconst (v := nI (1)) (pc := 123) dX2_plant_123 rfl ?_
  refine J_iaddN (pc := 124) dX2_plant_124 ?_
  refine J_putf (k := 3) (pc := 125) dX2_plant_125 fpX2_plant_27 (fun g => ⟨rfl, rfl⟩) k42 (Nat.le_of_ble_eq_true rfl) ?_
  obtain ⟨h_5, eh_5⟩ : ∃ z : MH, z = (h_3.1, hset h_3.2 (1) (oB 2 [.ref (2), .ref (10), .ref (11), .int (nI (σ.2.1.1 + 1)), .int (nI (σ.2.1.2.1)), .int (nI (σ.2.1.2.2))])) := ⟨_, rfl⟩
  refine J_heq (h2 := h_5) eh_5 ?_
  have H_6 : h_5.2 (1) = some (oB 2 [.ref (2), .ref (10), .ref (11), .int (nI (σ.2.1.1 + 1)), .int (nI (σ.2.1.2.1)), .int (nI (σ.2.1.2.2))]) := hs_s eh_5
  refine J_aload_n (i := 0) (pc := 128) dX2_plant_128 rfl rfl ?_
  refine J_getf (k := 3) (pc := 129) dX2_plant_129 flX2_27 H_6 rfl ?_
  refine J_iconst (v := nI (1)) (pc := 132) dX2_plant_132 rfl ?_
  refine J_isubN (pc := 133) dX2_plant_133 (by omega) ?_
  refine J_iret (ty := .int) (pc := 134) dX2_plant_134 rfl rfl ?_
  exact ⟨rfl, GP_plant hG hk5 (Or.inr trivial) H_6 ⟨by rw [eh_5]; exact fr3.1.trans fr2.1, fun i i1 i2 => (hs_n eh_5 i1).trans ((fr3.2 i (by omega)).trans (fr2.2 i (by omega)))⟩ (by rw [eh_5]; exact ⟨_, _, _, _, _, _, TO_fr (Fr_set (Nat.le_refl 1) (Nat.le_refl 1)) (by omega) hT3, hK2⟩) ⟨ok_gr σ.1 _ 5 _ _, hN2⟩⟩
