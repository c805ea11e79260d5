-- growing, node by node
theorem c_bestSome {g : GT} {d : Nat} {h : MH} {β : BT} (hB : BH h β) {s le c : Nat} (hs : s < 2 ^ 20) (he : le < 2 ^ 31) (e : bestS β s le = some c) : J g (d + 4) 0 0 mX0_bestCut 0 (lv_args 0 [.ref 2, .int (nI s), .int (nI le)]) [] h (RI (nI c) h) := by
  have r := c_bestCut (g := g) (d := d) hB hs he
  rw [e] at r
  exact r
theorem c_bestNone {g : GT} {d : Nat} {h : MH} {β : BT} (hB : BH h β) {s le : Nat} (hs : s < 2 ^ 20) (he : le < 2 ^ 31) (e : bestS β s le = none) : J g (d + 4) 0 0 mX0_bestCut 0 (lv_args 0 [.ref 2, .int (nI s), .int (nI le)]) [] h (RI (-1) h) := by
  have r := c_bestCut (g := g) (d := d) hB hs he
  rw [e] at r
  exact r
theorem up2 {f : Nat → Int32} {j : Nat} {x : Int32} {q : Nat} (h : q ≠ j) : upd f j x q = f q := pk_un h

set_option maxHeartbeats 2000000 in
set_option maxRecDepth 20000 in
theorem gr_blk {g : GT} {dd : Nat} {β : BT} {t S mo le : Nat} {pa lf : Int32} {rf : Nat → Int32} {Q : RT → MH → Prop} (ht : 9 < t) (hl : 1 ≤ le) (hl2 : le < 1000) (hmo : mo ≤ 100) : ∀ (d m D X p n : Nat) (h : MH) (cf sf gf df mf : Nat → Int32), TO h t (nI (n)) pa lf cf sf gf df mf rf → BH h β → G4 cf sf gf df p = (-1, nI (mostS β X), nI (cnt X), nI D) → mf p = nI X → X < 2 ^ 20 → 1 ≤ cnt X → p < n → n + 2 * cnt X ≤ 41 → D + m = mo → m ≤ d →
    (∀ h' cf' sf' gf' df' mf', Fr t (t + 5) h h' → TO h' t (nI (n + nN d (grT β le d m X) - 1)) pa lf cf' sf' gf' df' mf' rf → Blk (G4 cf' sf' gf' df') p d D (grT β le d m X) → (∀ q, q < p → G4 cf' sf' gf' df' q = G4 cf sf gf df q) → (∀ q, p < q → q < n → G4 cf' sf' gf' df' (q + nN d (grT β le d m X) - 1) = G4 cf sf gf df q ∧ mf' (q + nN d (grT β le d m X) - 1) = mf q) → J g (dd + 5) 0 0 mX1_grow 16 [(5, .int (nI (p + nN d (grT β le d m X)))), (0, .ref (t)), (1, .ref (2)), (2, .int (nI (S))), (3, .int (nI (mo))), (4, .int (nI (le)))] [] h' Q) → J g (dd + 5) 0 0 mX1_grow 16 [(5, .int (nI (p))), (0, .ref (t)), (1, .ref (2)), (2, .int (nI (S))), (3, .int (nI (mo))), (4, .int (nI (le)))] [] h Q := by
  intro d
  induction d with
  | zero =>
    intro m D X p n h cf sf gf df mf hT hB hG eX hX hc1 hp hn hm hd hk
    have e1 : cf p = -1 := congrArg (fun q : Q4 => q.1) hG
    have e2 : sf p = nI (mostS β X) := congrArg (fun q : Q4 => q.2.1) hG
    have e4 : df p = nI D := congrArg (fun q : Q4 => q.2.2.2) hG
    obtain ⟨k0, k1, k2, k3, k4, k5, k6⟩ := id hT
    have b9 := BH_2 hB
    have hcx := cnt_le X
    obtain rfl : m = 0 := by omega
    have leafk := hk h cf sf gf df mf Fr_rfl (by rw [show n + nN 0 (grT β le 0 0 X) - 1 = n from rfl]; exact hT) (Blk_mk0 hG) (fun _ _ => rfl) (fun q _ _ => ⟨rfl, rfl⟩)
    refine J_iload (i := 5) (pc := 16) dX1_grow_16 rfl ?_
    refine J_aload_n (i := 0) (pc := 18) dX1_grow_18 rfl rfl ?_
    refine J_getf (k := 6) (pc := 19) dX1_grow_19 flX1_30 k0 rfl ?_
    refine J_icmp_geN (tgt := 89) (pc := 22) dX1_grow_22 (by decide) (by omega) (by omega) (fun c22 => by exfalso; first | omega | simp_all) (fun c22 => ?_)
    refine J_iload (i := 5) (pc := 25) dX1_grow_25 rfl ?_
    refine J_bipush (v := nI (39)) (pc := 27) dX1_grow_27 rfl ?_
    refine J_icmp_geN (tgt := 89) (pc := 29) dX1_grow_29 (by decide) (by omega) (by omega) (fun c29 => by exfalso; first | omega | simp_all) (fun c29 => ?_)
    refine J_aload_n (i := 0) (pc := 32) dX1_grow_32 rfl rfl ?_
    refine J_getf (k := 3) (pc := 33) dX1_grow_33 flX1_21 k0 rfl ?_
    refine J_iload (i := 5) (pc := 36) dX1_grow_36 rfl ?_
    refine J_iald (j := p) (pc := 38) dX1_grow_38 k4 rfl (by omega) (by omega) ?_
    rw [show df p = nI (D) from e4]
    refine J_iload_n (i := 3) (pc := 39) dX1_grow_39 rfl rfl ?_
    refine J_icmp_geN (tgt := 83) (pc := 40) dX1_grow_40 (by decide) (by omega) (by omega) (fun c40 => ?_) (fun c40 => by exfalso; first | omega | simp_all)
    refine J_iinc (i := 5) (v := nI (p + 1)) (lv' := [(5, .int (nI (p + 1))), (0, .ref (t)), (1, .ref (2)), (2, .int (nI (S))), (3, .int (nI (mo))), (4, .int (nI (le)))]) (pc := 83) dX1_grow_83 rfl (nI_add (p) 1) (by decide) rfl ?_
    refine J_goto (tgt := 16) (pc := 86) dX1_grow_86 (by decide) ?_
    refine J_sub (lv' := [(5, .int (nI (p + 1))), (0, .ref (t)), (1, .ref (2)), (2, .int (nI (S))), (3, .int (nI (mo))), (4, .int (nI (le)))]) [0, 1, 2, 3, 4, 5] rfl ?_
    exact leafk
  | succ d ih =>
    intro m D X p n h cf sf gf df mf hT hB hG eX hX hc1 hp hn hm hd hk
    have e1 : cf p = -1 := congrArg (fun q : Q4 => q.1) hG
    have e2 : sf p = nI (mostS β X) := congrArg (fun q : Q4 => q.2.1) hG
    have e4 : df p = nI D := congrArg (fun q : Q4 => q.2.2.2) hG
    obtain ⟨k0, k1, k2, k3, k4, k5, k6⟩ := id hT
    have b9 := BH_2 hB
    have hcx := cnt_le X
    cases m with
    | zero =>
      have leafk := hk h cf sf gf df mf Fr_rfl (by rw [show n + nN (d + 1) (grT β le (d + 1) 0 X) - 1 = n from rfl]; exact hT) (Blk_mkl hG) (fun _ _ => rfl) (fun q _ _ => ⟨rfl, rfl⟩)
      refine J_iload (i := 5) (pc := 16) dX1_grow_16 rfl ?_
      refine J_aload_n (i := 0) (pc := 18) dX1_grow_18 rfl rfl ?_
      refine J_getf (k := 6) (pc := 19) dX1_grow_19 flX1_30 k0 rfl ?_
      refine J_icmp_geN (tgt := 89) (pc := 22) dX1_grow_22 (by decide) (by omega) (by omega) (fun c22 => by exfalso; first | omega | simp_all) (fun c22 => ?_)
      refine J_iload (i := 5) (pc := 25) dX1_grow_25 rfl ?_
      refine J_bipush (v := nI (39)) (pc := 27) dX1_grow_27 rfl ?_
      refine J_icmp_geN (tgt := 89) (pc := 29) dX1_grow_29 (by decide) (by omega) (by omega) (fun c29 => by exfalso; first | omega | simp_all) (fun c29 => ?_)
      refine J_aload_n (i := 0) (pc := 32) dX1_grow_32 rfl rfl ?_
      refine J_getf (k := 3) (pc := 33) dX1_grow_33 flX1_21 k0 rfl ?_
      refine J_iload (i := 5) (pc := 36) dX1_grow_36 rfl ?_
      refine J_iald (j := p) (pc := 38) dX1_grow_38 k4 rfl (by omega) (by omega) ?_
      rw [show df p = nI (D) from e4]
      refine J_iload_n (i := 3) (pc := 39) dX1_grow_39 rfl rfl ?_
      refine J_icmp_geN (tgt := 83) (pc := 40) dX1_grow_40 (by decide) (by omega) (by omega) (fun c40 => ?_) (fun c40 => by exfalso; first | omega | simp_all)
      refine J_iinc (i := 5) (v := nI (p + 1)) (lv' := [(5, .int (nI (p + 1))), (0, .ref (t)), (1, .ref (2)), (2, .int (nI (S))), (3, .int (nI (mo))), (4, .int (nI (le)))]) (pc := 83) dX1_grow_83 rfl (nI_add (p) 1) (by decide) rfl ?_
      refine J_goto (tgt := 16) (pc := 86) dX1_grow_86 (by decide) ?_
      refine J_sub (lv' := [(5, .int (nI (p + 1))), (0, .ref (t)), (1, .ref (2)), (2, .int (nI (S))), (3, .int (nI (mo))), (4, .int (nI (le)))]) [0, 1, 2, 3, 4, 5] rfl ?_
      exact leafk
    | succ m =>
      cases ce : bestS β X le with
      | none =>
        have eN : nN (d + 1) (grT β le (d + 1) (m + 1) X) = 1 := by rw [gr_n ce]; rfl
        have leafk := hk h cf sf gf df mf Fr_rfl (by rw [eN]; exact hT) (by rw [gr_n ce]; exact Blk_mkl hG) (fun _ _ => rfl) (fun q _ _ => by rw [eN]; exact ⟨rfl, rfl⟩)
        rw [eN] at leafk
        refine J_iload (i := 5) (pc := 16) dX1_grow_16 rfl ?_
        refine J_aload_n (i := 0) (pc := 18) dX1_grow_18 rfl rfl ?_
        refine J_getf (k := 6) (pc := 19) dX1_grow_19 flX1_30 k0 rfl ?_
        refine J_icmp_geN (tgt := 89) (pc := 22) dX1_grow_22 (by decide) (by omega) (by omega) (fun c22 => by exfalso; first | omega | simp_all) (fun c22 => ?_)
        refine J_iload (i := 5) (pc := 25) dX1_grow_25 rfl ?_
        refine J_bipush (v := nI (39)) (pc := 27) dX1_grow_27 rfl ?_
        refine J_icmp_geN (tgt := 89) (pc := 29) dX1_grow_29 (by decide) (by omega) (by omega) (fun c29 => by exfalso; first | omega | simp_all) (fun c29 => ?_)
        refine J_aload_n (i := 0) (pc := 32) dX1_grow_32 rfl rfl ?_
        refine J_getf (k := 3) (pc := 33) dX1_grow_33 flX1_21 k0 rfl ?_
        refine J_iload (i := 5) (pc := 36) dX1_grow_36 rfl ?_
        refine J_iald (j := p) (pc := 38) dX1_grow_38 k4 rfl (by omega) (by omega) ?_
        rw [show df p = nI (D) from e4]
        refine J_iload_n (i := 3) (pc := 39) dX1_grow_39 rfl rfl ?_
        refine J_icmp_geN (tgt := 83) (pc := 40) dX1_grow_40 (by decide) (by omega) (by omega) (fun c40 => by exfalso; first | omega | simp_all) (fun c40 => ?_)
        refine J_aload_n (i := 0) (pc := 43) dX1_grow_43 rfl rfl ?_
        refine J_getf (k := 6) (pc := 44) dX1_grow_44 flX1_30 k0 rfl ?_
        refine J_iconst (v := nI (2)) (pc := 47) dX1_grow_47 rfl ?_
        refine J_iaddN (pc := 48) dX1_grow_48 ?_
        refine J_bipush (v := nI (39)) (pc := 49) dX1_grow_49 rfl ?_
        refine J_icmp_gtN (tgt := 83) (pc := 51) dX1_grow_51 (by decide) (by omega) (by omega) (fun c51 => ?_) (fun c51 => ?_)
        · skip
          refine J_iinc (i := 5) (v := nI (p + 1)) (lv' := [(5, .int (nI (p + 1))), (0, .ref (t)), (1, .ref (2)), (2, .int (nI (S))), (3, .int (nI (mo))), (4, .int (nI (le)))]) (pc := 83) dX1_grow_83 rfl (nI_add (p) 1) (by decide) rfl ?_
          refine J_goto (tgt := 16) (pc := 86) dX1_grow_86 (by decide) ?_
          refine J_sub (lv' := [(5, .int (nI (p + 1))), (0, .ref (t)), (1, .ref (2)), (2, .int (nI (S))), (3, .int (nI (mo))), (4, .int (nI (le)))]) [0, 1, 2, 3, 4, 5] rfl ?_
          exact leafk
        · skip
          refine J_aload_n (i := 1) (pc := 54) dX1_grow_54 rfl rfl ?_
          refine J_aload_n (i := 0) (pc := 55) dX1_grow_55 rfl rfl ?_
          refine J_getf (k := 4) (pc := 56) dX1_grow_56 flX1_24 k0 rfl ?_
          refine J_iload (i := 5) (pc := 59) dX1_grow_59 rfl ?_
          refine J_iald (j := p) (pc := 61) dX1_grow_61 k5 rfl (by omega) (by omega) ?_
          rw [show mf p = nI (X) from eX]
          refine J_iload (i := 4) (pc := 62) dX1_grow_62 rfl ?_
          refine J_cVi (st := []) (As := [.int (nI (X)), .int (nI (le))]) (pc := 64) dX1_grow_64 okX0_bestCut q1_192 q1_193 q1_194 (rfl : vwCl[0]? = some _) b9 rfl (Nat.le_of_ble_eq_true rfl) (Nat.le_of_ble_eq_true rfl) (c_bestNone hB (by omega) (by omega) ce) ?_
          refine J_istore (i := 6) (lv' := [(6, .int (-1)), (5, .int (nI (p))), (0, .ref (t)), (1, .ref (2)), (2, .int (nI (S))), (3, .int (nI (mo))), (4, .int (nI (le)))]) (pc := 67) dX1_grow_67 (by decide) rfl ?_
          refine J_iload (i := 6) (pc := 69) dX1_grow_69 rfl ?_
          refine J_if_lt (tgt := 83) (pc := 71) dX1_grow_71 (by decide) (fun c71 => ?_) (fun c71 => absurd c71 (by decide))
          refine J_iinc (i := 5) (v := nI (p + 1)) (lv' := [(5, .int (nI (p + 1))), (6, .int (-1)), (0, .ref (t)), (1, .ref (2)), (2, .int (nI (S))), (3, .int (nI (mo))), (4, .int (nI (le)))]) (pc := 83) dX1_grow_83 rfl (nI_add (p) 1) (by decide) rfl ?_
          refine J_goto (tgt := 16) (pc := 86) dX1_grow_86 (by decide) ?_
          refine J_sub (lv' := [(5, .int (nI (p + 1))), (0, .ref (t)), (1, .ref (2)), (2, .int (nI (S))), (3, .int (nI (mo))), (4, .int (nI (le)))]) [0, 2, 3, 4, 5, 6] rfl ?_
          exact leafk
      | some c =>
        have hP := best_P ce
        have hP1 := hP.1
        have hP2 := hP.2.2.1
        have hP3 := hP.2.2.2.1
        have hcs := cnt_two β X c
        have hlow : X &&& mkC β c ≤ X := Nat.and_le_left
        have hhigh := sdf_le X (X &&& mkC β c)
        have hN1 := nN_gr (β := β) hl d m (X &&& mkC β c) (by omega)
        have hN2 := nN_gr (β := β) hl d m (sdf X (X &&& mkC β c)) (by omega)
        have hN3 := nN_pos d (grT β le d m (X &&& mkC β c))
        have hN4 := nN_pos d (grT β le d m (sdf X (X &&& mkC β c)))
        rw [gr_s ce, nN_f] at hk
        generalize eN1 : nN d (grT β le d m (X &&& mkC β c)) = N1 at *
        generalize eN2 : nN d (grT β le d m (sdf X (X &&& mkC β c))) = N2 at *
        refine J_iload (i := 5) (pc := 16) dX1_grow_16 rfl ?_
        refine J_aload_n (i := 0) (pc := 18) dX1_grow_18 rfl rfl ?_
        refine J_getf (k := 6) (pc := 19) dX1_grow_19 flX1_30 k0 rfl ?_
        refine J_icmp_geN (tgt := 89) (pc := 22) dX1_grow_22 (by decide) (by omega) (by omega) (fun c22 => by exfalso; first | omega | simp_all) (fun c22 => ?_)
        refine J_iload (i := 5) (pc := 25) dX1_grow_25 rfl ?_
        refine J_bipush (v := nI (39)) (pc := 27) dX1_grow_27 rfl ?_
        refine J_icmp_geN (tgt := 89) (pc := 29) dX1_grow_29 (by decide) (by omega) (by omega) (fun c29 => by exfalso; first | omega | simp_all) (fun c29 => ?_)
        refine J_aload_n (i := 0) (pc := 32) dX1_grow_32 rfl rfl ?_
        refine J_getf (k := 3) (pc := 33) dX1_grow_33 flX1_21 k0 rfl ?_
        refine J_iload (i := 5) (pc := 36) dX1_grow_36 rfl ?_
        refine J_iald (j := p) (pc := 38) dX1_grow_38 k4 rfl (by omega) (by omega) ?_
        rw [show df p = nI (D) from e4]
        refine J_iload_n (i := 3) (pc := 39) dX1_grow_39 rfl rfl ?_
        refine J_icmp_geN (tgt := 83) (pc := 40) dX1_grow_40 (by decide) (by omega) (by omega) (fun c40 => by exfalso; first | omega | simp_all) (fun c40 => ?_)
        refine J_aload_n (i := 0) (pc := 43) dX1_grow_43 rfl rfl ?_
        refine J_getf (k := 6) (pc := 44) dX1_grow_44 flX1_30 k0 rfl ?_
        refine J_iconst (v := nI (2)) (pc := 47) dX1_grow_47 rfl ?_
        refine J_iaddN (pc := 48) dX1_grow_48 ?_
        refine J_bipush (v := nI (39)) (pc := 49) dX1_grow_49 rfl ?_
        refine J_icmp_gtN (tgt := 83) (pc := 51) dX1_grow_51 (by decide) (by omega) (by omega) (fun c51 => by exfalso; first | omega | simp_all) (fun c51 => ?_)
        refine J_aload_n (i := 1) (pc := 54) dX1_grow_54 rfl rfl ?_
        refine J_aload_n (i := 0) (pc := 55) dX1_grow_55 rfl rfl ?_
        refine J_getf (k := 4) (pc := 56) dX1_grow_56 flX1_24 k0 rfl ?_
        refine J_iload (i := 5) (pc := 59) dX1_grow_59 rfl ?_
        refine J_iald (j := p) (pc := 61) dX1_grow_61 k5 rfl (by omega) (by omega) ?_
        rw [show mf p = nI (X) from eX]
        refine J_iload (i := 4) (pc := 62) dX1_grow_62 rfl ?_
        refine J_cVi (st := []) (As := [.int (nI (X)), .int (nI (le))]) (pc := 64) dX1_grow_64 okX0_bestCut q1_192 q1_193 q1_194 (rfl : vwCl[0]? = some _) b9 rfl (Nat.le_of_ble_eq_true rfl) (Nat.le_of_ble_eq_true rfl) (c_bestSome hB (by omega) (by omega) ce) ?_
        refine J_istore (i := 6) (lv' := [(6, .int (nI (c))), (5, .int (nI (p))), (0, .ref (t)), (1, .ref (2)), (2, .int (nI (S))), (3, .int (nI (mo))), (4, .int (nI (le)))]) (pc := 67) dX1_grow_67 (by decide) rfl ?_
        refine J_iload (i := 6) (pc := 69) dX1_grow_69 rfl ?_
        refine J_if_lt (tgt := 83) (pc := 71) dX1_grow_71 (by decide) (fun c71 => absurd c71 (nI_pos (by omega))) (fun c71 => ?_)
        refine J_aload_n (i := 0) (pc := 74) dX1_grow_74 rfl rfl ?_
        refine J_aload_n (i := 1) (pc := 75) dX1_grow_75 rfl rfl ?_
        refine J_iload (i := 5) (pc := 76) dX1_grow_76 rfl ?_
        refine J_iload (i := 6) (pc := 78) dX1_grow_78 rfl ?_
        refine J_cVv (st := []) (As := [.ref (2), .int (nI (p)), .int (nI (c))]) (pc := 80) dX1_grow_80 okX1_fork q1_216 q1_218 qs1_4 (rfl : vwCl[1]? = some _) k0 rfl (Nat.le_of_ble_eq_true rfl) (Nat.le_of_ble_eq_true rfl) (c_fork hB ⟨k0, k1, k2, k3, k4, k5, k6⟩ ht (by omega) hp (best_P ce).1 hX eX e4) (fun h_1 q_2 => ?_)
        refine J_iinc (i := 5) (v := nI (p + 1)) (lv' := [(5, .int (nI (p + 1))), (6, .int (nI (c))), (0, .ref (t)), (1, .ref (2)), (2, .int (nI (S))), (3, .int (nI (mo))), (4, .int (nI (le)))]) (pc := 83) dX1_grow_83 rfl (nI_add (p) 1) (by decide) rfl ?_
        refine J_goto (tgt := 16) (pc := 86) dX1_grow_86 (by decide) ?_
        refine J_sub (lv' := [(5, .int (nI (p + 1))), (0, .ref (t)), (1, .ref (2)), (2, .int (nI (S))), (3, .int (nI (mo))), (4, .int (nI (le)))]) [0, 2, 3, 4, 5, 6] rfl ?_
        obtain ⟨fr1, hT1⟩ := q_2
        refine ih m (D + 1) (X &&& mkC β c) (p + 1) (n + 2) h_1 _ _ _ _ _ hT1 (BH_fr fr1 ht hB) ?_ ?_ (by omega) (by omega) (by omega) (by omega) (by omega) (by omega) ?_
        · show (_, _, _, _) = _
          rw [up2 (by omega), pk_us, up2 (by omega), pk_us, up2 (by omega), pk_us, up2 (by omega), pk_us]
        · rw [up2 (by omega), pk_us]
        rw [eN1]
        intro h2 cf2 sf2 gf2 df2 mf2 fr2 hT2 bl2 lo2 hi2
        have hr := hi2 (p + 2) (by omega) (by omega)
        refine ih m (D + 1) (sdf X (X &&& mkC β c)) (p + 1 + N1) (n + 2 + N1 - 1) h2 cf2 sf2 gf2 df2 mf2 hT2 (BH_fr fr2 ht (BH_fr fr1 ht hB)) ?_ ?_ (by omega) (by omega) (by omega) (by omega) (by omega) (by omega) ?_
        · rw [show p + 1 + N1 = p + 2 + N1 - 1 by omega, hr.1]
          show (_, _, _, _) = _
          rw [pk_us, pk_us, pk_us, pk_us]
        · rw [show p + 1 + N1 = p + 2 + N1 - 1 by omega, hr.2, pk_us]
        rw [eN2]
        intro h3 cf3 sf3 gf3 df3 mf3 fr3 hT3 bl3 lo3 hi3
        have r9 := hk h3 cf3 sf3 gf3 df3 mf3 (Fr_tr fr1 (Fr_tr fr2 fr3)) (by rw [show n + (1 + N1 + N2) - 1 = n + 2 + N1 - 1 + N2 - 1 by omega]; exact hT3) ?_ ?_ ?_
        · rw [show p + (1 + N1 + N2) = p + 1 + N1 + N2 by omega] at r9
          exact r9
        · refine Blk_mkf ?_ ?_ (by rw [eN1]; exact bl3)
          · rw [lo3 p (by omega), lo2 p (by omega)]
            show (_, _, _, _) = _
            rw [up2 (by omega), up2 (by omega), pk_us, up2 (by omega), up2 (by omega), up2 (by omega), up2 (by omega), up2 (by omega), up2 (by omega), shf_lo (by omega), shf_lo (by omega), shf_lo (by omega), e4, e2]
            show (_, _, gf p, _) = _
            rw [show gf p = nI (cnt X) from congrArg (fun q : Q4 => q.2.2.1) hG]
          · refine Blk_congr bl2 ?_
            intro q hq
            rw [eN1] at hq
            exact lo3 _ (by omega)
        · intro q hq
          rw [lo3 q (by omega), lo2 q (by omega)]
          show (_, _, _, _) = (_, _, _, _)
          rw [up2 (by omega), up2 (by omega), up2 (by omega), up2 (by omega), up2 (by omega), up2 (by omega), up2 (by omega), up2 (by omega), up2 (by omega), shf_lo (by omega), shf_lo (by omega), shf_lo (by omega), shf_lo (by omega)]
        · intro q hq hq2
          have a1 := hi2 (q + 2) (by omega) (by omega)
          have a2 := hi3 (q + 2 + N1 - 1) (by omega) (by omega)
          rw [show q + 2 + N1 - 1 + N2 - 1 = q + (1 + N1 + N2) - 1 by omega] at a2
          rw [a2.1, a2.2, a1.1, a1.2]
          refine ⟨?_, ?_⟩
          · show (_, _, _, _) = (_, _, _, _)
            rw [up2 (by omega), up2 (by omega), up2 (by omega), up2 (by omega), up2 (by omega), up2 (by omega), up2 (by omega), up2 (by omega), up2 (by omega), shf_hi (by omega) (by omega), shf_hi (by omega) (by omega), shf_hi (by omega) (by omega), shf_hi (by omega) (by omega), show q + 2 - 2 = q by omega]
          · rw [up2 (by omega), up2 (by omega), shf_hi (by omega) (by omega), show q + 2 - 2 = q by omega]

set_option maxHeartbeats 2000000 in
set_option maxRecDepth 20000 in
theorem c_grow {g : GT} {dd : Nat} {h : MH} {β : BT} (hB : BH h β) {t S mo le d : Nat} {n pa lf : Int32} {cf sf gf df mf rf : Nat → Int32} (hT : TO h t n pa lf cf sf gf df mf rf) (ht : 9 < t) (hl : 1 ≤ le) (hl2 : le < 1000) (hmo : mo ≤ 100) (hd : mo ≤ d) (hS : S < 2 ^ 20) (hS1 : 1 ≤ cnt S) :
    J g (dd + 5) 0 0 mX1_grow 0 (lv_args 0 [.ref t, .ref 2, .int (nI S), .int (nI mo), .int (nI le)]) [] h (RV (fun h' => ∃ cf' sf' gf' df' mf', Fr t (t + 5) h h' ∧ TO h' t (nI (nN d (grT β le d mo S))) pa lf cf' sf' gf' df' mf' rf ∧ Blk (G4 cf' sf' gf' df') 0 d 0 (grT β le d mo S) ∧ nN d (grT β le d mo S) ≤ 39)) := by
  have hcs := cnt_le S
  have hN := nN_gr (β := β) hl d mo S hS1
  have hN0 := nN_pos d (grT β le d mo S)
  obtain ⟨k0, k1, k2, k3, k4, k5, k6⟩ := id hT
  have b9 := BH_2 hB
  refine J_aload_n (i := 0) (pc := 0) dX1_grow_0 rfl rfl ?_
  refine J_iconst (v := nI (1)) (pc := 1) dX1_grow_1 rfl ?_
  refine J_putf (k := 6) (pc := 2) dX1_grow_2 fpX1_grow_30 (fun g => ⟨rfl, rfl⟩) k0 (Nat.le_of_ble_eq_true rfl) ?_
  obtain ⟨h_1, eh_1⟩ : ∃ z : MH, z = (h.1, hset h.2 (t) (oB 1 [.ref (t + 1), .ref (t + 2), .ref (t + 3), .ref (t + 4), .ref (t + 5), .ref (t + 6), .int (nI (1)), .int (pa), .int (lf)])) := ⟨_, rfl⟩
  refine J_heq (h2 := h_1) eh_1 ?_
  have H_2 : h_1.2 (t) = some (oB 1 [.ref (t + 1), .ref (t + 2), .ref (t + 3), .ref (t + 4), .ref (t + 5), .ref (t + 6), .int (nI (1)), .int (pa), .int (lf)]) := hs_s eh_1
  have H_3 : h_1.2 (t + 1) = some (aI (39) (cf)) := (hs_n eh_1 (by omega)).trans k1
  have H_4 : h_1.2 (t + 2) = some (aI (39) (sf)) := (hs_n eh_1 (by omega)).trans k2
  have H_5 : h_1.2 (t + 3) = some (aI (39) (gf)) := (hs_n eh_1 (by omega)).trans k3
  have H_6 : h_1.2 (t + 4) = some (aI (39) (df)) := (hs_n eh_1 (by omega)).trans k4
  have H_7 : h_1.2 (t + 5) = some (aI (39) (mf)) := (hs_n eh_1 (by omega)).trans k5
  have H_8 : h_1.2 (t + 6) = some (aI (39) (rf)) := (hs_n eh_1 (by omega)).trans k6
  have H_9 : h_1.2 (2) = some (oB 0 [.ref (3), .ref (7), .ref (8), .ref (9), .int (nI (β.1)), .int (nI (β.2.1))]) := (hs_n eh_1 (by omega)).trans b9
  have H_10 : BH h_1 β := by rw [eh_1]; exact BH_set (by omega) hB
  have H_11 : Fr (t) (t + 5) h h_1 := by rw [eh_1]; exact Fr_st Fr_rfl (by omega) (by omega)
  refine J_aload_n (i := 0) (pc := 5) dX1_grow_5 rfl rfl ?_
  refine J_aload_n (i := 1) (pc := 6) dX1_grow_6 rfl rfl ?_
  refine J_iconst (v := nI (0)) (pc := 7) dX1_grow_7 rfl ?_
  refine J_iload_n (i := 2) (pc := 8) dX1_grow_8 rfl rfl ?_
  refine J_iconst (v := nI (0)) (pc := 9) dX1_grow_9 rfl ?_
  refine J_cVv (st := []) (As := [.ref (2), .int (nI (0)), .int (nI (S)), .int (nI (0))]) (pc := 10) dX1_grow_10 okX1_putLeaf q1_172 q1_174 qs1_2 (rfl : vwCl[1]? = some _) H_2 rfl (Nat.le_of_ble_eq_true rfl) (Nat.le_of_ble_eq_true rfl) (c_putLeaf (le := lf) H_10 ⟨H_2, H_3, H_4, H_5, H_6, H_7, H_8⟩ ht (by omega) hS) (fun h_12 q_13 => ?_)
  obtain ⟨x_21, y_14, y_15, y_16, y_17, y_18, y_19, y_20⟩ := q_13
  have H_22 : h_12.2 (2) = some (oB 0 [.ref (3), .ref (7), .ref (8), .ref (9), .int (nI (β.1)), .int (nI (β.2.1))]) := (x_21.2 _ (by omega)).trans H_9
  have H_23 : BH h_12 β := BH_fr x_21 (by omega) H_10
  have H_24 : Fr (t) (t + 5) h h_12 := Fr_tr H_11 (Fr_up x_21 (by omega) (by omega))
  refine J_iconst (v := nI (0)) (pc := 13) dX1_grow_13 rfl ?_
  refine J_istore (i := 5) (lv' := [(5, .int (nI (0))), (0, .ref (t)), (1, .ref (2)), (2, .int (nI (S))), (3, .int (nI (mo))), (4, .int (nI (le)))]) (pc := 14) dX1_grow_14 (by decide) rfl ?_
  refine J_sub (lv' := [(5, .int (nI (0))), (0, .ref (t)), (1, .ref (2)), (2, .int (nI (S))), (3, .int (nI (mo))), (4, .int (nI (le)))]) [0, 1, 2, 3, 4, 5] rfl ?_
  refine gr_blk ht hl hl2 hmo d mo 0 S 0 1 h_12 _ _ _ _ _ ⟨y_14, y_15, y_16, y_17, y_18, y_19, y_20⟩ H_23 ?_ pk_us hS hS1 (by omega) (by omega) (Nat.zero_add mo) hd ?_
  · show (_, _, _, _) = _
    rw [pk_us, pk_us, pk_us, pk_us]
  intro h2 cf2 sf2 gf2 df2 mf2 fr2 hT2 bl2 lo2 hi2
  rw [show 1 + nN d (grT β le d mo S) - 1 = nN d (grT β le d mo S) by omega] at hT2
  obtain ⟨k0, k1, k2, k3, k4, k5, k6⟩ := id hT2
  rw [show 0 + nN d (grT β le d mo S) = nN d (grT β le d mo S) by omega]
  refine J_iload (i := 5) (pc := 16) dX1_grow_16 rfl ?_
  refine J_aload_n (i := 0) (pc := 18) dX1_grow_18 rfl rfl ?_
  refine J_getf (k := 6) (pc := 19) dX1_grow_19 flX1_30 k0 rfl ?_
  refine J_icmp_geN (tgt := 89) (pc := 22) dX1_grow_22 (by decide) (by omega) (by omega) (fun c22 => ?_) (fun c22 => by exfalso; first | omega | simp_all)
  refine J_vret (pc := 89) dX1_grow_89 rfl ?_
  exact ⟨rfl, _, _, _, _, _, Fr_tr H_24 fr2, hT2, bl2, by omega⟩
