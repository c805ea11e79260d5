-- about how many beans a tree is right; what it says
def rgT (β : BT) : (d : Nat) → TR d → Nat → Nat
  | 0, (s, _), X => ofS β X s
  | _ + 1, ((s, _), none), X => ofS β X s
  | d + 1, (_, some (c, l, r)), X => rgT β d l (X &&& mkC β c) + rgT β d r (sdf X (X &&& mkC β c))
def lfV (β : BT) (r : NR) (X : Nat) : Nat := match r.1 with
  | none => ofS β X r.2.1
  | some _ => 0
theorem lfV_le (β : BT) (r : NR) (X : Nat) : lfV β r X ≤ 20 := by
  unfold lfV
  split
  · exact ofS_le _ _ _
  · exact Nat.zero_le _
theorem rg_sum (β : BT) : ∀ (d D : Nat) (t : TR d) (X p : Nat) (f : Nat → Nat), (∀ q, q < nN d t → f (p + q) = lfV β (rowT d D t q) (cmT β d t X q)) → sumP f (nN d t) p = rgT β d t X
  | 0, D, (s, m), X, p, f, h => by
    have h0 := h 0 Nat.one_pos
    show f p + 0 = _
    rw [Nat.add_zero]
    exact h0
  | d + 1, D, t, X, p, f, h => by
    rcases TR_c t with ⟨s, m, rfl⟩ | ⟨s, m, c, l, r, rfl⟩
    · have h0 := h 0 Nat.one_pos
      show f p + 0 = _
      rw [Nat.add_zero]
      exact h0
    · have h0 : f (p + 0) = 0 := h 0 (by rw [nN_f]; omega)
      rw [nN_f, Nat.add_assoc, sumP_add, sumP_add]
      rw [rg_sum β d (D + 1) l (X &&& mkC β c) (p + 1) f, rg_sum β d (D + 1) r (sdf X (X &&& mkC β c)) (p + 1 + nN d l) f]
      · show f p + 0 + _ = _
        rw [show f p = 0 from h0, Nat.zero_add]
        rfl
      · intro q hq
        have h1 := h (nN d l + q + 1) (by rw [nN_f]; omega)
        rw [show p + (nN d l + q + 1) = p + 1 + nN d l + q by omega] at h1
        rw [h1]
        show lfV β (if nN d l + q < nN d l then _ else rowT d (D + 1) r (nN d l + q - nN d l)) (if nN d l + q < nN d l then _ else cmT β d r _ (nN d l + q - nN d l)) = _
        rw [if_neg (by omega), if_neg (by omega), show nN d l + q - nN d l = q by omega]
      · intro q hq
        have h1 := h (q + 1) (by rw [nN_f]; omega)
        rw [show p + (q + 1) = p + 1 + q by omega] at h1
        rw [h1]
        show lfV β (if q < nN d l then _ else _) (if q < nN d l then _ else _) = _
        rw [if_pos hq, if_pos hq]
theorem rgT_le (β : BT) : ∀ (d : Nat) (t : TR d) (X : Nat), rgT β d t X ≤ nN d t * 20
  | 0, (s, m), X => by
    show ofS β X s ≤ 1 * 20
    exact ofS_le _ _ _
  | d + 1, t, X => by
    rcases TR_c t with ⟨s, m, rfl⟩ | ⟨s, m, c, l, r, rfl⟩
    · show ofS β X s ≤ 1 * 20
      exact ofS_le _ _ _
    · have h1 := rgT_le β d l (X &&& mkC β c)
      have h2 := rgT_le β d r (sdf X (X &&& mkC β c))
      rw [nN_f]
      show rgT β d l (X &&& mkC β c) + rgT β d r (sdf X (X &&& mkC β c)) ≤ _
      omega
theorem ok_row : ∀ (d D : Nat) (t : TR d) (q : Nat), okT d t → q < nN d t → (∀ c, (rowT d D t q).1 = some c → c < 153) ∧ (rowT d D t q).2.1 ≤ 2 ∧ (rowT d D t q).2.2.1 ≤ 20
  | 0, D, (s, m), q, ok, hq => ⟨fun c e => (by cases e), ok.1, ok.2⟩
  | d + 1, D, t, q, ok, hq => by
    rcases TR_c t with ⟨s, m, rfl⟩ | ⟨s, m, c, l, r, rfl⟩
    · exact ⟨fun c e => (by cases e), ok.1, ok.2⟩
    · cases q with
      | zero => exact ⟨fun c2 e => by cases e; exact ok.2.1, ok.1.1, ok.1.2⟩
      | succ q =>
        have hq2 : q + 1 < 1 + nN d l + nN d r := hq
        show (∀ c2, (if q < nN d l then rowT d (D + 1) l q else rowT d (D + 1) r (q - nN d l)).1 = some c2 → c2 < 153) ∧ (if q < nN d l then rowT d (D + 1) l q else rowT d (D + 1) r (q - nN d l)).2.1 ≤ 2 ∧ (if q < nN d l then rowT d (D + 1) l q else rowT d (D + 1) r (q - nN d l)).2.2.1 ≤ 20
        split
        · exact ok_row d (D + 1) l q ok.2.2.1 (by omega)
        · exact ok_row d (D + 1) r _ ok.2.2.2 (by omega)

set_option maxHeartbeats 2000000 in
set_option maxRecDepth 20000 in
theorem ra_loop {g : GT} {dd : Nat} {h : MH} {β : BT} (hB : BH h β) {t : Nat} {pa le : Int32} {cf sf gf df mf rf : Nat → Int32} {n S : Nat} (hT : TO h t (nI n) pa le cf sf gf df mf rf) (hn : n ≤ 39) {R : Nat → NR} {C : Nat → Nat} (eR : ∀ p, p < n → G4 cf sf gf df p = E4 (R p)) (eC : ∀ p, p < n → mf p = nI (C p)) (hR : ∀ p, p < n → (∀ c, (R p).1 = some c → c < 153) ∧ (R p).2.1 ≤ 2) (hC : ∀ p, p < n → C p < 2 ^ 20) : ∀ (k a p : Nat), p + k = n → J g (dd + 2) 0 0 mX1_rightAbout 11 [(3, .int (nI (a))), (4, .int (nI (p))), (0, .ref (t)), (1, .ref (2)), (2, .int (nI (S)))] [] h (RI (nI (a + sumP (fun p => lfV β (R p) (C p)) k p)) h) := by
  obtain ⟨k0, k1, k2, k3, k4, k5, k6⟩ := id hT
  have b9 := BH_2 hB
  intro k
  induction k with
  | zero =>
    intro a p h1
    refine J_iload (i := 4) (pc := 11) dX1_rightAbout_11 rfl ?_
    refine J_aload_n (i := 0) (pc := 13) dX1_rightAbout_13 rfl rfl ?_
    refine J_getf (k := 6) (pc := 14) dX1_rightAbout_14 flX1_30 k0 rfl ?_
    refine J_icmp_geN (tgt := 57) (pc := 17) dX1_rightAbout_17 (by decide) (by omega) (by omega) (fun c17 => ?_) (fun c17 => by exfalso; first | omega | simp_all)
    refine J_iload_n (i := 3) (pc := 57) dX1_rightAbout_57 rfl rfl ?_
    refine J_iret (ty := .int) (pc := 58) dX1_rightAbout_58 rfl rfl ?_
    exact ⟨rfl, rfl⟩
  | succ k ih =>
    intro a p h1
    have hc : ∀ c, (R p).1 = some c → c < 2 ^ 31 := fun c e => by have := (hR p (by omega)).1 c e; omega
    have hs := (hR p (by omega)).2
    have hC1 := hC p (by omega)
    have e0 := eR p (by omega)
    have e1 : cf p = enc (R p).1 := congrArg (fun q : Q4 => q.1) e0
    have e2 : sf p = nI (R p).2.1 := congrArg (fun q : Q4 => q.2.1) e0
    rw [sumP]
    refine J_iload (i := 4) (pc := 11) dX1_rightAbout_11 rfl ?_
    refine J_aload_n (i := 0) (pc := 13) dX1_rightAbout_13 rfl rfl ?_
    refine J_getf (k := 6) (pc := 14) dX1_rightAbout_14 flX1_30 k0 rfl ?_
    refine J_icmp_geN (tgt := 57) (pc := 17) dX1_rightAbout_17 (by decide) (by omega) (by omega) (fun c17 => by exfalso; first | omega | simp_all) (fun c17 => ?_)
    refine J_aload_n (i := 0) (pc := 20) dX1_rightAbout_20 rfl rfl ?_
    refine J_getf (k := 0) (pc := 21) dX1_rightAbout_21 flX1_9 k0 rfl ?_
    refine J_iload (i := 4) (pc := 24) dX1_rightAbout_24 rfl ?_
    refine J_iald (j := p) (pc := 26) dX1_rightAbout_26 k1 rfl (by omega) (by omega) ?_
    rw [show cf p = enc ((R p).1) from e1]
    refine J_if_geE (tgt := 51) (pc := 27) dX1_rightAbout_27 (by decide) (by assumption) (fun k_1 c27 => ?_) (fun c27 => ?_)
    · skip
      try rw [c27]
      refine J_iinc (i := 4) (v := nI (p + 1)) (lv' := [(4, .int (nI (p + 1))), (3, .int (nI (a))), (0, .ref (t)), (1, .ref (2)), (2, .int (nI (S)))]) (pc := 51) dX1_rightAbout_51 rfl (nI_add (p) 1) (by decide) rfl ?_
      refine J_goto (tgt := 11) (pc := 54) dX1_rightAbout_54 (by decide) ?_
      refine J_sub (lv' := [(3, .int (nI (a))), (4, .int (nI (p + 1))), (0, .ref (t)), (1, .ref (2)), (2, .int (nI (S)))]) [1, 0, 2, 3, 4] rfl ?_
      have r9 := ih (a) (p + 1) (by omega)
      rw [show lfV β (R p) (C p) = 0 from by unfold lfV; rw [c27], Nat.zero_add]
      exact r9
    · skip
      try rw [c27]
      refine J_iload_n (i := 3) (pc := 30) dX1_rightAbout_30 rfl rfl ?_
      refine J_aload_n (i := 1) (pc := 31) dX1_rightAbout_31 rfl rfl ?_
      refine J_aload_n (i := 0) (pc := 32) dX1_rightAbout_32 rfl rfl ?_
      refine J_getf (k := 4) (pc := 33) dX1_rightAbout_33 flX1_24 k0 rfl ?_
      refine J_iload (i := 4) (pc := 36) dX1_rightAbout_36 rfl ?_
      refine J_iald (j := p) (pc := 38) dX1_rightAbout_38 k5 rfl (by omega) (by omega) ?_
      rw [show mf p = nI (C p) from eC p (by omega)]
      refine J_aload_n (i := 0) (pc := 39) dX1_rightAbout_39 rfl rfl ?_
      refine J_getf (k := 1) (pc := 40) dX1_rightAbout_40 flX1_15 k0 rfl ?_
      refine J_iload (i := 4) (pc := 43) dX1_rightAbout_43 rfl ?_
      refine J_iald (j := p) (pc := 45) dX1_rightAbout_45 k2 rfl (by omega) (by omega) ?_
      rw [show sf p = nI ((R p).2.1) from e2]
      refine J_cVi (st := [.int (nI (a))]) (As := [.int (nI (C p)), .int (nI ((R p).2.1))]) (pc := 46) dX1_rightAbout_46 okX0_howManyOfSort q2_18 q1_182 q1_183 (rfl : vwCl[0]? = some _) b9 rfl (Nat.le_of_ble_eq_true rfl) (Nat.le_of_ble_eq_true rfl) (c_howManyOfSort hB (by omega) (by omega)) ?_
      refine J_iaddN (pc := 49) dX1_rightAbout_49 ?_
      refine J_istore_n (i := 3) (lv' := [(3, .int (nI (a + (ofS β (C p) ((R p).2.1))))), (4, .int (nI (p))), (0, .ref (t)), (1, .ref (2)), (2, .int (nI (S)))]) (pc := 50) dX1_rightAbout_50 rfl (by decide) rfl ?_
      refine J_iinc (i := 4) (v := nI (p + 1)) (lv' := [(4, .int (nI (p + 1))), (3, .int (nI (a + (ofS β (C p) ((R p).2.1))))), (0, .ref (t)), (1, .ref (2)), (2, .int (nI (S)))]) (pc := 51) dX1_rightAbout_51 rfl (nI_add (p) 1) (by decide) rfl ?_
      refine J_goto (tgt := 11) (pc := 54) dX1_rightAbout_54 (by decide) ?_
      refine J_sub (lv' := [(3, .int (nI (a + (ofS β (C p) ((R p).2.1))))), (4, .int (nI (p + 1))), (0, .ref (t)), (1, .ref (2)), (2, .int (nI (S)))]) [1, 0, 2, 3, 4] rfl ?_
      have r9 := ih (a + (ofS β (C p) ((R p).2.1))) (p + 1) (by omega)
      rw [show lfV β (R p) (C p) = ofS β (C p) (R p).2.1 from by unfold lfV; rw [c27], ← Nat.add_assoc]
      exact r9
theorem c_rightAbout {g : GT} {dd : Nat} {h : MH} {β : BT} (hB : BH h β) {t : Nat} {pa le : Int32} {cf sf gf df mf rf : Nat → Int32} {n d S : Nat} {tr : TR d} (hT : TO h t (nI n) pa le cf sf gf df mf rf) (ht : 9 < t) (hn : n ≤ 39) (hK : Blk (G4 cf sf gf df) 0 d 0 tr) (ok : okT d tr) (hd : d < 1000) (hN : nN d tr = n) (hS : S < 2 ^ 20) :
    J g (dd + 2) 0 0 mX1_rightAbout 0 (lv_args 0 [.ref t, .ref 2, .int (nI S)]) [] h (RH (nI (rgT β d tr S)) (fun h' => ∃ mf', Fr (t + 5) (t + 5) h h' ∧ TO h' t (nI n) pa le cf sf gf df mf' rf)) := by
  obtain ⟨k0, k1, k2, k3, k4, k5, k6⟩ := id hT
  have b9 := BH_2 hB
  refine J_aload_n (i := 0) (pc := 0) dX1_rightAbout_0 rfl rfl ?_
  refine J_aload_n (i := 1) (pc := 1) dX1_rightAbout_1 rfl rfl ?_
  refine J_iload_n (i := 2) (pc := 2) dX1_rightAbout_2 rfl rfl ?_
  refine J_cVv (st := []) (As := [.ref (2), .int (nI (S))]) (pc := 3) dX1_rightAbout_3 okX1_send q2_10 q2_12 qs1_7 (rfl : vwCl[1]? = some _) k0 rfl (Nat.le_of_ble_eq_true rfl) (Nat.le_of_ble_eq_true rfl) (c_send hB hT ht hn hK ok hd hN hS) (fun h_1 q_2 => ?_)
  refine J_iconst (v := nI (0)) (pc := 6) dX1_rightAbout_6 rfl ?_
  refine J_istore_n (i := 3) (lv' := [(3, .int (nI (0))), (0, .ref (t)), (1, .ref (2)), (2, .int (nI (S)))]) (pc := 7) dX1_rightAbout_7 rfl (by decide) rfl ?_
  refine J_iconst (v := nI (0)) (pc := 8) dX1_rightAbout_8 rfl ?_
  refine J_istore (i := 4) (lv' := [(4, .int (nI (0))), (3, .int (nI (0))), (0, .ref (t)), (1, .ref (2)), (2, .int (nI (S)))]) (pc := 9) dX1_rightAbout_9 (by decide) rfl ?_
  refine J_sub (lv' := [(3, .int (nI (0))), (4, .int (nI (0))), (0, .ref (t)), (1, .ref (2)), (2, .int (nI (S)))]) [1, 0, 2, 3, 4] rfl ?_
  obtain ⟨mf2, fr2, hT2, m2⟩ := q_2
  have r9 := ra_loop (g := g) (dd := dd) (S := S) (BH_fr fr2 (by omega) hB) hT2 hn (R := rowT d 0 tr) (C := cmT β d tr S) (fun p hp => by have r := hK p (by omega); rw [Nat.zero_add] at r; exact r) m2 (fun p hp => ⟨(ok_row d 0 tr p ok (by omega)).1, (ok_row d 0 tr p ok (by omega)).2.1⟩) (fun p _ => Nat.lt_of_le_of_lt (cmT_le β d tr S p) hS) n 0 0 (Nat.zero_add n)
  rw [show sumP (fun p => lfV β (rowT d 0 tr p) (cmT β d tr S p)) n 0 = rgT β d tr S from by rw [← hN]; exact rg_sum β d 0 tr S 0 _ (fun q _ => by rw [Nat.zero_add]), Nat.zero_add] at r9
  refine J_mono ?_ r9
  rintro r h9 ⟨r1, rfl⟩
  exact ⟨r1, mf2, fr2, hT2⟩

def msr (a b c k : Nat) : Nat := if k = 0 then a else if k = 1 then b else c
def saT : (d : Nat) → TR d → Nat → Nat → Nat → Nat
  | 0, (s, _), _, _, _ => s
  | _ + 1, ((s, _), none), _, _, _ => s
  | d + 1, (_, some (c, l, r)), x, y, z => if msr x y z (c / 51) ≤ c % 51 then saT d l x y z else saT d r x y z
theorem saT_le : ∀ (d : Nat) (t : TR d) (x y z : Nat), okT d t → saT d t x y z ≤ 2
  | 0, (s, m), x, y, z, ok => ok.1
  | d + 1, t, x, y, z, ok => by
    rcases TR_c t with ⟨s, m, rfl⟩ | ⟨s, m, c, l, r, rfl⟩
    · exact ok.1
    · show (if msr x y z (c / 51) ≤ c % 51 then saT d l x y z else saT d r x y z) ≤ 2
      split
      · exact saT_le d l x y z ok.2.2.1
      · exact saT_le d r x y z ok.2.2.2
def hgT : (d : Nat) → TR d → Nat → Option Nat
  | 0, _, _ => none
  | _ + 1, (_, none), _ => none
  | d + 1, (_, some (_, l, _)), p => some (p + 1 + nN d l)
theorem c_mC {g : GT} {d : Nat} {h : MH} {c : Nat} (hc : c < 153) : J g d 0 0 mX2_measureOfCut 0 (lv_args 0 [.int (nI c)]) [] h (RI (nI (c / 51)) h) := c_measureOfCut (c := some c) (fun n e => by cases e; omega)
theorem c_nC {g : GT} {d : Nat} {h : MH} {c : Nat} (hc : c < 153) : J g d 0 0 mX2_numberOfCut 0 (lv_args 0 [.int (nI c)]) [] h (RI (nI (c % 51)) h) := c_numberOfCut (c := some c) (fun n e => by cases e; omega)

theorem c_highG {g : GT} {dd : Nat} {h : MH} {t : Nat} {pa le : Int32} {cf sf gf df mf rf : Nat → Int32} {n p d D : Nat} {tr : TR d} (hT : TO h t (nI n) pa le cf sf gf df mf rf) (hn : n ≤ 39) (hK : Blk (G4 cf sf gf df) p d D tr) (ok : okT d tr) (hD : D + d < 1000) (hp : p + nN d tr ≤ n) : J g dd 0 0 mX1_highPartAt 0 (lv_args 0 [.ref t, .int (nI p)]) [] h (RI (enc (hgT d tr p)) h) := by
  cases d with
  | zero =>
    obtain ⟨s, m⟩ := tr
    have hp2 : p + 1 ≤ n := hp
    exact c_highL hT hn (congrArg (fun q : Q4 => q.1) (Blk_0 hK)) (by omega)
  | succ d =>
    rcases TR_c tr with ⟨s, m, rfl⟩ | ⟨s, m, c, l, r, rfl⟩
    · have hp2 : p + 1 ≤ n := hp
      exact c_highL hT hn (congrArg (fun q : Q4 => q.1) (Blk_l hK)) (by omega)
    · exact c_high hT hn hK ok.2.1 (by omega) hp

set_option maxHeartbeats 2000000 in
set_option maxRecDepth 20000 in
theorem so_loop {g : GT} {dd : Nat} {h : MH} {t : Nat} {pa le : Int32} {cf sf gf df mf rf : Nat → Int32} {n x y z : Nat} (hT : TO h t (nI n) pa le cf sf gf df mf rf) (hn : n ≤ 39) (hx : x ≤ 50) (hy : y ≤ 50) (hz : z ≤ 50) : ∀ (d D : Nat) (tr : TR d) (p v : Nat), Blk (G4 cf sf gf df) p d D tr → okT d tr → D + d < 1000 → p + nN d tr ≤ n → v + d ≤ 5 →
    J g (dd + 1) 0 0 mX1_sortFor 13 [(4, .int (nI (p))), (5, .int (enc (hgT d tr p))), (6, .int (nI (v))), (0, .ref (t)), (1, .int (nI (x))), (2, .int (nI (y))), (3, .int (nI (z)))] [] h (RI (nI (saT d tr x y z)) h) := by
  obtain ⟨k0, k1, k2, k3, k4, k5, k6⟩ := id hT
  intro d
  induction d with
  | zero =>
    intro D tr p v hK ok hD hp hv
    obtain ⟨s, m⟩ := tr
    · skip
      have hp2 : p + 1 ≤ n := hp
      have e2 : sf p = nI s := congrArg (fun q : Q4 => q.2.1) (Blk_0 hK)
      refine J_iload (i := 6) (pc := 13) dX1_sortFor_13 rfl ?_
      refine J_iconst (v := nI (5)) (pc := 15) dX1_sortFor_15 rfl ?_
      refine J_icmp_geN (tgt := 98) (pc := 16) dX1_sortFor_16 (by decide) (by omega) (by omega) (fun c16 => ?_) (fun c16 => ?_)
      · skip
        refine J_aload_n (i := 0) (pc := 98) dX1_sortFor_98 rfl rfl ?_
        refine J_getf (k := 1) (pc := 99) dX1_sortFor_99 flX1_15 k0 rfl ?_
        refine J_iload (i := 4) (pc := 102) dX1_sortFor_102 rfl ?_
        refine J_iald (j := p) (pc := 104) dX1_sortFor_104 k2 rfl (by omega) (by omega) ?_
        rw [show sf p = nI (s) from e2]
        refine J_iret (ty := .int) (pc := 105) dX1_sortFor_105 rfl rfl ?_
        exact ⟨rfl, rfl⟩
      · skip
        refine J_iload (i := 5) (pc := 19) dX1_sortFor_19 rfl ?_
        refine J_if_lt (tgt := 98) (pc := 21) dX1_sortFor_21 (by decide) (fun c21 => ?_) (fun c21 => absurd c21 (fun q => q (show (-1 : Int32) < 0 from by decide)))
        refine J_aload_n (i := 0) (pc := 98) dX1_sortFor_98 rfl rfl ?_
        refine J_getf (k := 1) (pc := 99) dX1_sortFor_99 flX1_15 k0 rfl ?_
        refine J_iload (i := 4) (pc := 102) dX1_sortFor_102 rfl ?_
        refine J_iald (j := p) (pc := 104) dX1_sortFor_104 k2 rfl (by omega) (by omega) ?_
        rw [show sf p = nI (s) from e2]
        refine J_iret (ty := .int) (pc := 105) dX1_sortFor_105 rfl rfl ?_
        exact ⟨rfl, rfl⟩
  | succ d ih =>
    intro D tr p v hK ok hD hp hv
    rcases TR_c tr with ⟨s, m, rfl⟩ | ⟨s, m, c, l, r, rfl⟩
    · skip
      have hp2 : p + 1 ≤ n := hp
      have e2 : sf p = nI s := congrArg (fun q : Q4 => q.2.1) (Blk_l hK)
      refine J_iload (i := 6) (pc := 13) dX1_sortFor_13 rfl ?_
      refine J_iconst (v := nI (5)) (pc := 15) dX1_sortFor_15 rfl ?_
      refine J_icmp_geN (tgt := 98) (pc := 16) dX1_sortFor_16 (by decide) (by omega) (by omega) (fun c16 => ?_) (fun c16 => ?_)
      · skip
        refine J_aload_n (i := 0) (pc := 98) dX1_sortFor_98 rfl rfl ?_
        refine J_getf (k := 1) (pc := 99) dX1_sortFor_99 flX1_15 k0 rfl ?_
        refine J_iload (i := 4) (pc := 102) dX1_sortFor_102 rfl ?_
        refine J_iald (j := p) (pc := 104) dX1_sortFor_104 k2 rfl (by omega) (by omega) ?_
        rw [show sf p = nI (s) from e2]
        refine J_iret (ty := .int) (pc := 105) dX1_sortFor_105 rfl rfl ?_
        exact ⟨rfl, rfl⟩
      · skip
        refine J_iload (i := 5) (pc := 19) dX1_sortFor_19 rfl ?_
        refine J_if_lt (tgt := 98) (pc := 21) dX1_sortFor_21 (by decide) (fun c21 => ?_) (fun c21 => absurd c21 (fun q => q (show (-1 : Int32) < 0 from by decide)))
        refine J_aload_n (i := 0) (pc := 98) dX1_sortFor_98 rfl rfl ?_
        refine J_getf (k := 1) (pc := 99) dX1_sortFor_99 flX1_15 k0 rfl ?_
        refine J_iload (i := 4) (pc := 102) dX1_sortFor_102 rfl ?_
        refine J_iald (j := p) (pc := 104) dX1_sortFor_104 k2 rfl (by omega) (by omega) ?_
        rw [show sf p = nI (s) from e2]
        refine J_iret (ty := .int) (pc := 105) dX1_sortFor_105 rfl rfl ?_
        exact ⟨rfl, rfl⟩
    · obtain ⟨b0, b1, b2⟩ := Blk_f hK
      have n1 := nN_pos d l
      have n2 := nN_pos d r
      have hp2 : p + (1 + nN d l + nN d r) ≤ n := hp
      have hc := ok.2.1
      have e1 : cf p = nI c := congrArg (fun q : Q4 => q.1) b0
      refine J_iload (i := 6) (pc := 13) dX1_sortFor_13 rfl ?_
      refine J_iconst (v := nI (5)) (pc := 15) dX1_sortFor_15 rfl ?_
      refine J_icmp_geN (tgt := 98) (pc := 16) dX1_sortFor_16 (by decide) (by omega) (by omega) (fun c16 => by exfalso; first | omega | simp_all) (fun c16 => ?_)
      refine J_iload (i := 5) (pc := 19) dX1_sortFor_19 rfl ?_
      refine J_if_lt (tgt := 98) (pc := 21) dX1_sortFor_21 (by decide) (fun c21 => absurd c21 (nI_pos (by omega))) (fun c21 => ?_)
      refine J_aload_n (i := 0) (pc := 24) dX1_sortFor_24 rfl rfl ?_
      refine J_getf (k := 0) (pc := 25) dX1_sortFor_25 flX1_9 k0 rfl ?_
      refine J_iload (i := 4) (pc := 28) dX1_sortFor_28 rfl ?_
      refine J_iald (j := p) (pc := 30) dX1_sortFor_30 k1 rfl (by omega) (by omega) ?_
      rw [show cf p = nI (c) from e1]
      refine J_cSNi (st := []) (As := [.int (nI (c))]) (pc := 31) dX1_sortFor_31 okX2_measureOfCut q2_37 q2_38 rfl (Nat.le_of_ble_eq_true rfl) (Nat.le_of_ble_eq_true rfl) (c_mC ok.2.1) ?_
      refine J_istore (i := 7) (lv' := [(7, .int (nI (c / 51))), (4, .int (nI (p))), (5, .int (nI (p + 1 + nN d l))), (6, .int (nI (v))), (0, .ref (t)), (1, .int (nI (x))), (2, .int (nI (y))), (3, .int (nI (z)))]) (pc := 34) dX1_sortFor_34 (by decide) rfl ?_
      refine J_iload (i := 7) (pc := 36) dX1_sortFor_36 rfl ?_
      refine J_if_neN (tgt := 45) (pc := 38) dX1_sortFor_38 (by decide) (by omega) (fun c38 => ?_) (fun c38 => ?_)
      · skip
        refine J_iload (i := 7) (pc := 45) dX1_sortFor_45 rfl ?_
        refine J_iconst (v := nI (1)) (pc := 47) dX1_sortFor_47 rfl ?_
        refine J_icmp_neN (tgt := 55) (pc := 48) dX1_sortFor_48 (by decide) (by omega) (by omega) (fun c48 => ?_) (fun c48 => ?_)
        · skip
          refine J_iload_n (i := 3) (pc := 55) dX1_sortFor_55 rfl rfl ?_
          refine J_istore (i := 8) (lv' := [(8, .int (nI (z))), (7, .int (nI (c / 51))), (4, .int (nI (p))), (5, .int (nI (p + 1 + nN d l))), (6, .int (nI (v))), (0, .ref (t)), (1, .int (nI (x))), (2, .int (nI (y))), (3, .int (nI (z)))]) (pc := 56) dX1_sortFor_56 (by decide) rfl ?_
          refine J_iload (i := 8) (pc := 58) dX1_sortFor_58 rfl ?_
          refine J_aload_n (i := 0) (pc := 60) dX1_sortFor_60 rfl rfl ?_
          refine J_getf (k := 0) (pc := 61) dX1_sortFor_61 flX1_9 k0 rfl ?_
          refine J_iload (i := 4) (pc := 64) dX1_sortFor_64 rfl ?_
          refine J_iald (j := p) (pc := 66) dX1_sortFor_66 k1 rfl (by omega) (by omega) ?_
          rw [show cf p = nI (c) from e1]
          refine J_cSNi (st := [.int (nI (z))]) (As := [.int (nI (c))]) (pc := 67) dX1_sortFor_67 okX2_numberOfCut q2_44 q2_45 rfl (Nat.le_of_ble_eq_true rfl) (Nat.le_of_ble_eq_true rfl) (c_nC ok.2.1) ?_
          refine J_icmp_gtN (tgt := 80) (pc := 70) dX1_sortFor_70 (by decide) (by omega) (by omega) (fun c70 => ?_) (fun c70 => ?_)
          · skip
            refine J_iload (i := 5) (pc := 80) dX1_sortFor_80 rfl ?_
            refine J_istore (i := 4) (lv' := [(4, .int (nI (p + 1 + nN d l))), (8, .int (nI (z))), (7, .int (nI (c / 51))), (5, .int (nI (p + 1 + nN d l))), (6, .int (nI (v))), (0, .ref (t)), (1, .int (nI (x))), (2, .int (nI (y))), (3, .int (nI (z)))]) (pc := 82) dX1_sortFor_82 (by decide) rfl ?_
            refine J_aload_n (i := 0) (pc := 84) dX1_sortFor_84 rfl rfl ?_
            refine J_iload (i := 4) (pc := 85) dX1_sortFor_85 rfl ?_
            refine J_cVi (st := []) (As := [.int (nI (p + 1 + nN d l))]) (pc := 87) dX1_sortFor_87 okX1_highPartAt q2_14 q2_15 q2_16 (rfl : vwCl[1]? = some _) k0 rfl (Nat.le_of_ble_eq_true rfl) (Nat.le_of_ble_eq_true rfl) (c_highG hT hn b2 ok.2.2.2 (by omega) (by omega)) ?_
            refine J_istore (i := 5) (lv' := [(5, .int (enc (hgT d r (p + 1 + nN d l)))), (4, .int (nI (p + 1 + nN d l))), (8, .int (nI (z))), (7, .int (nI (c / 51))), (6, .int (nI (v))), (0, .ref (t)), (1, .int (nI (x))), (2, .int (nI (y))), (3, .int (nI (z)))]) (pc := 90) dX1_sortFor_90 (by decide) rfl ?_
            refine J_iinc (i := 6) (v := nI (v + 1)) (lv' := [(6, .int (nI (v + 1))), (5, .int (enc (hgT d r (p + 1 + nN d l)))), (4, .int (nI (p + 1 + nN d l))), (8, .int (nI (z))), (7, .int (nI (c / 51))), (0, .ref (t)), (1, .int (nI (x))), (2, .int (nI (y))), (3, .int (nI (z)))]) (pc := 92) dX1_sortFor_92 rfl (nI_add (v) 1) (by decide) rfl ?_
            refine J_goto (tgt := 13) (pc := 95) dX1_sortFor_95 (by decide) ?_
            refine J_sub (lv' := [(4, .int (nI (p + 1 + nN d l))), (5, .int (enc (hgT d r (p + 1 + nN d l)))), (6, .int (nI (v + 1))), (0, .ref (t)), (1, .int (nI (x))), (2, .int (nI (y))), (3, .int (nI (z)))]) [2, 1, 0, 5, 6, 7, 8] rfl ?_
            rw [show saT (d + 1) ((s, m), some (c, l, r)) x y z = saT d r x y z from if_neg (by unfold msr; (repeat' split) <;> omega)]
            exact ih (D + 1) r (p + 1 + nN d l) (v + 1) b2 ok.2.2.2 (by omega) (by omega) (by omega)
          · skip
            refine J_iload (i := 4) (pc := 73) dX1_sortFor_73 rfl ?_
            refine J_iconst (v := nI (1)) (pc := 75) dX1_sortFor_75 rfl ?_
            refine J_iaddN (pc := 76) dX1_sortFor_76 ?_
            refine J_goto (tgt := 82) (pc := 77) dX1_sortFor_77 (by decide) ?_
            refine J_istore (i := 4) (lv' := [(4, .int (nI (p + 1))), (8, .int (nI (z))), (7, .int (nI (c / 51))), (5, .int (nI (p + 1 + nN d l))), (6, .int (nI (v))), (0, .ref (t)), (1, .int (nI (x))), (2, .int (nI (y))), (3, .int (nI (z)))]) (pc := 82) dX1_sortFor_82 (by decide) rfl ?_
            refine J_aload_n (i := 0) (pc := 84) dX1_sortFor_84 rfl rfl ?_
            refine J_iload (i := 4) (pc := 85) dX1_sortFor_85 rfl ?_
            refine J_cVi (st := []) (As := [.int (nI (p + 1))]) (pc := 87) dX1_sortFor_87 okX1_highPartAt q2_14 q2_15 q2_16 (rfl : vwCl[1]? = some _) k0 rfl (Nat.le_of_ble_eq_true rfl) (Nat.le_of_ble_eq_true rfl) (c_highG hT hn b1 ok.2.2.1 (by omega) (by omega)) ?_
            refine J_istore (i := 5) (lv' := [(5, .int (enc (hgT d l (p + 1)))), (4, .int (nI (p + 1))), (8, .int (nI (z))), (7, .int (nI (c / 51))), (6, .int (nI (v))), (0, .ref (t)), (1, .int (nI (x))), (2, .int (nI (y))), (3, .int (nI (z)))]) (pc := 90) dX1_sortFor_90 (by decide) rfl ?_
            refine J_iinc (i := 6) (v := nI (v + 1)) (lv' := [(6, .int (nI (v + 1))), (5, .int (enc (hgT d l (p + 1)))), (4, .int (nI (p + 1))), (8, .int (nI (z))), (7, .int (nI (c / 51))), (0, .ref (t)), (1, .int (nI (x))), (2, .int (nI (y))), (3, .int (nI (z)))]) (pc := 92) dX1_sortFor_92 rfl (nI_add (v) 1) (by decide) rfl ?_
            refine J_goto (tgt := 13) (pc := 95) dX1_sortFor_95 (by decide) ?_
            refine J_sub (lv' := [(4, .int (nI (p + 1))), (5, .int (enc (hgT d l (p + 1)))), (6, .int (nI (v + 1))), (0, .ref (t)), (1, .int (nI (x))), (2, .int (nI (y))), (3, .int (nI (z)))]) [2, 1, 0, 5, 6, 7, 8] rfl ?_
            rw [show saT (d + 1) ((s, m), some (c, l, r)) x y z = saT d l x y z from if_pos (by unfold msr; (repeat' split) <;> omega)]
            exact ih (D + 1) l (p + 1) (v + 1) b1 ok.2.2.1 (by omega) (by omega) (by omega)
        · skip
          refine J_iload_n (i := 2) (pc := 51) dX1_sortFor_51 rfl rfl ?_
          refine J_goto (tgt := 56) (pc := 52) dX1_sortFor_52 (by decide) ?_
          refine J_istore (i := 8) (lv' := [(8, .int (nI (y))), (7, .int (nI (c / 51))), (4, .int (nI (p))), (5, .int (nI (p + 1 + nN d l))), (6, .int (nI (v))), (0, .ref (t)), (1, .int (nI (x))), (2, .int (nI (y))), (3, .int (nI (z)))]) (pc := 56) dX1_sortFor_56 (by decide) rfl ?_
          refine J_iload (i := 8) (pc := 58) dX1_sortFor_58 rfl ?_
          refine J_aload_n (i := 0) (pc := 60) dX1_sortFor_60 rfl rfl ?_
          refine J_getf (k := 0) (pc := 61) dX1_sortFor_61 flX1_9 k0 rfl ?_
          refine J_iload (i := 4) (pc := 64) dX1_sortFor_64 rfl ?_
          refine J_iald (j := p) (pc := 66) dX1_sortFor_66 k1 rfl (by omega) (by omega) ?_
          rw [show cf p = nI (c) from e1]
          refine J_cSNi (st := [.int (nI (y))]) (As := [.int (nI (c))]) (pc := 67) dX1_sortFor_67 okX2_numberOfCut q2_44 q2_45 rfl (Nat.le_of_ble_eq_true rfl) (Nat.le_of_ble_eq_true rfl) (c_nC ok.2.1) ?_
          refine J_icmp_gtN (tgt := 80) (pc := 70) dX1_sortFor_70 (by decide) (by omega) (by omega) (fun c70 => ?_) (fun c70 => ?_)
          · skip
            refine J_iload (i := 5) (pc := 80) dX1_sortFor_80 rfl ?_
            refine J_istore (i := 4) (lv' := [(4, .int (nI (p + 1 + nN d l))), (8, .int (nI (y))), (7, .int (nI (c / 51))), (5, .int (nI (p + 1 + nN d l))), (6, .int (nI (v))), (0, .ref (t)), (1, .int (nI (x))), (2, .int (nI (y))), (3, .int (nI (z)))]) (pc := 82) dX1_sortFor_82 (by decide) rfl ?_
            refine J_aload_n (i := 0) (pc := 84) dX1_sortFor_84 rfl rfl ?_
            refine J_iload (i := 4) (pc := 85) dX1_sortFor_85 rfl ?_
            refine J_cVi (st := []) (As := [.int (nI (p + 1 + nN d l))]) (pc := 87) dX1_sortFor_87 okX1_highPartAt q2_14 q2_15 q2_16 (rfl : vwCl[1]? = some _) k0 rfl (Nat.le_of_ble_eq_true rfl) (Nat.le_of_ble_eq_true rfl) (c_highG hT hn b2 ok.2.2.2 (by omega) (by omega)) ?_
            refine J_istore (i := 5) (lv' := [(5, .int (enc (hgT d r (p + 1 + nN d l)))), (4, .int (nI (p + 1 + nN d l))), (8, .int (nI (y))), (7, .int (nI (c / 51))), (6, .int (nI (v))), (0, .ref (t)), (1, .int (nI (x))), (2, .int (nI (y))), (3, .int (nI (z)))]) (pc := 90) dX1_sortFor_90 (by decide) rfl ?_
            refine J_iinc (i := 6) (v := nI (v + 1)) (lv' := [(6, .int (nI (v + 1))), (5, .int (enc (hgT d r (p + 1 + nN d l)))), (4, .int (nI (p + 1 + nN d l))), (8, .int (nI (y))), (7, .int (nI (c / 51))), (0, .ref (t)), (1, .int (nI (x))), (2, .int (nI (y))), (3, .int (nI (z)))]) (pc := 92) dX1_sortFor_92 rfl (nI_add (v) 1) (by decide) rfl ?_
            refine J_goto (tgt := 13) (pc := 95) dX1_sortFor_95 (by decide) ?_
            refine J_sub (lv' := [(4, .int (nI (p + 1 + nN d l))), (5, .int (enc (hgT d r (p + 1 + nN d l)))), (6, .int (nI (v + 1))), (0, .ref (t)), (1, .int (nI (x))), (2, .int (nI (y))), (3, .int (nI (z)))]) [2, 1, 0, 5, 6, 7, 8] rfl ?_
            rw [show saT (d + 1) ((s, m), some (c, l, r)) x y z = saT d r x y z from if_neg (by unfold msr; (repeat' split) <;> omega)]
            exact ih (D + 1) r (p + 1 + nN d l) (v + 1) b2 ok.2.2.2 (by omega) (by omega) (by omega)
          · skip
            refine J_iload (i := 4) (pc := 73) dX1_sortFor_73 rfl ?_
            refine J_iconst (v := nI (1)) (pc := 75) dX1_sortFor_75 rfl ?_
            refine J_iaddN (pc := 76) dX1_sortFor_76 ?_
            refine J_goto (tgt := 82) (pc := 77) dX1_sortFor_77 (by decide) ?_
            refine J_istore (i := 4) (lv' := [(4, .int (nI (p + 1))), (8, .int (nI (y))), (7, .int (nI (c / 51))), (5, .int (nI (p + 1 + nN d l))), (6, .int (nI (v))), (0, .ref (t)), (1, .int (nI (x))), (2, .int (nI (y))), (3, .int (nI (z)))]) (pc := 82) dX1_sortFor_82 (by decide) rfl ?_
            refine J_aload_n (i := 0) (pc := 84) dX1_sortFor_84 rfl rfl ?_
            refine J_iload (i := 4) (pc := 85) dX1_sortFor_85 rfl ?_
            refine J_cVi (st := []) (As := [.int (nI (p + 1))]) (pc := 87) dX1_sortFor_87 okX1_highPartAt q2_14 q2_15 q2_16 (rfl : vwCl[1]? = some _) k0 rfl (Nat.le_of_ble_eq_true rfl) (Nat.le_of_ble_eq_true rfl) (c_highG hT hn b1 ok.2.2.1 (by omega) (by omega)) ?_
            refine J_istore (i := 5) (lv' := [(5, .int (enc (hgT d l (p + 1)))), (4, .int (nI (p + 1))), (8, .int (nI (y))), (7, .int (nI (c / 51))), (6, .int (nI (v))), (0, .ref (t)), (1, .int (nI (x))), (2, .int (nI (y))), (3, .int (nI (z)))]) (pc := 90) dX1_sortFor_90 (by decide) rfl ?_
            refine J_iinc (i := 6) (v := nI (v + 1)) (lv' := [(6, .int (nI (v + 1))), (5, .int (enc (hgT d l (p + 1)))), (4, .int (nI (p + 1))), (8, .int (nI (y))), (7, .int (nI (c / 51))), (0, .ref (t)), (1, .int (nI (x))), (2, .int (nI (y))), (3, .int (nI (z)))]) (pc := 92) dX1_sortFor_92 rfl (nI_add (v) 1) (by decide) rfl ?_
            refine J_goto (tgt := 13) (pc := 95) dX1_sortFor_95 (by decide) ?_
            refine J_sub (lv' := [(4, .int (nI (p + 1))), (5, .int (enc (hgT d l (p + 1)))), (6, .int (nI (v + 1))), (0, .ref (t)), (1, .int (nI (x))), (2, .int (nI (y))), (3, .int (nI (z)))]) [2, 1, 0, 5, 6, 7, 8] rfl ?_
            rw [show saT (d + 1) ((s, m), some (c, l, r)) x y z = saT d l x y z from if_pos (by unfold msr; (repeat' split) <;> omega)]
            exact ih (D + 1) l (p + 1) (v + 1) b1 ok.2.2.1 (by omega) (by omega) (by omega)
      · skip
        refine J_iload_n (i := 1) (pc := 41) dX1_sortFor_41 rfl rfl ?_
        refine J_goto (tgt := 56) (pc := 42) dX1_sortFor_42 (by decide) ?_
        refine J_istore (i := 8) (lv' := [(8, .int (nI (x))), (7, .int (nI (c / 51))), (4, .int (nI (p))), (5, .int (nI (p + 1 + nN d l))), (6, .int (nI (v))), (0, .ref (t)), (1, .int (nI (x))), (2, .int (nI (y))), (3, .int (nI (z)))]) (pc := 56) dX1_sortFor_56 (by decide) rfl ?_
        refine J_iload (i := 8) (pc := 58) dX1_sortFor_58 rfl ?_
        refine J_aload_n (i := 0) (pc := 60) dX1_sortFor_60 rfl rfl ?_
        refine J_getf (k := 0) (pc := 61) dX1_sortFor_61 flX1_9 k0 rfl ?_
        refine J_iload (i := 4) (pc := 64) dX1_sortFor_64 rfl ?_
        refine J_iald (j := p) (pc := 66) dX1_sortFor_66 k1 rfl (by omega) (by omega) ?_
        rw [show cf p = nI (c) from e1]
        refine J_cSNi (st := [.int (nI (x))]) (As := [.int (nI (c))]) (pc := 67) dX1_sortFor_67 okX2_numberOfCut q2_44 q2_45 rfl (Nat.le_of_ble_eq_true rfl) (Nat.le_of_ble_eq_true rfl) (c_nC ok.2.1) ?_
        refine J_icmp_gtN (tgt := 80) (pc := 70) dX1_sortFor_70 (by decide) (by omega) (by omega) (fun c70 => ?_) (fun c70 => ?_)
        · skip
          refine J_iload (i := 5) (pc := 80) dX1_sortFor_80 rfl ?_
          refine J_istore (i := 4) (lv' := [(4, .int (nI (p + 1 + nN d l))), (8, .int (nI (x))), (7, .int (nI (c / 51))), (5, .int (nI (p + 1 + nN d l))), (6, .int (nI (v))), (0, .ref (t)), (1, .int (nI (x))), (2, .int (nI (y))), (3, .int (nI (z)))]) (pc := 82) dX1_sortFor_82 (by decide) rfl ?_
          refine J_aload_n (i := 0) (pc := 84) dX1_sortFor_84 rfl rfl ?_
          refine J_iload (i := 4) (pc := 85) dX1_sortFor_85 rfl ?_
          refine J_cVi (st := []) (As := [.int (nI (p + 1 + nN d l))]) (pc := 87) dX1_sortFor_87 okX1_highPartAt q2_14 q2_15 q2_16 (rfl : vwCl[1]? = some _) k0 rfl (Nat.le_of_ble_eq_true rfl) (Nat.le_of_ble_eq_true rfl) (c_highG hT hn b2 ok.2.2.2 (by omega) (by omega)) ?_
          refine J_istore (i := 5) (lv' := [(5, .int (enc (hgT d r (p + 1 + nN d l)))), (4, .int (nI (p + 1 + nN d l))), (8, .int (nI (x))), (7, .int (nI (c / 51))), (6, .int (nI (v))), (0, .ref (t)), (1, .int (nI (x))), (2, .int (nI (y))), (3, .int (nI (z)))]) (pc := 90) dX1_sortFor_90 (by decide) rfl ?_
          refine J_iinc (i := 6) (v := nI (v + 1)) (lv' := [(6, .int (nI (v + 1))), (5, .int (enc (hgT d r (p + 1 + nN d l)))), (4, .int (nI (p + 1 + nN d l))), (8, .int (nI (x))), (7, .int (nI (c / 51))), (0, .ref (t)), (1, .int (nI (x))), (2, .int (nI (y))), (3, .int (nI (z)))]) (pc := 92) dX1_sortFor_92 rfl (nI_add (v) 1) (by decide) rfl ?_
          refine J_goto (tgt := 13) (pc := 95) dX1_sortFor_95 (by decide) ?_
          refine J_sub (lv' := [(4, .int (nI (p + 1 + nN d l))), (5, .int (enc (hgT d r (p + 1 + nN d l)))), (6, .int (nI (v + 1))), (0, .ref (t)), (1, .int (nI (x))), (2, .int (nI (y))), (3, .int (nI (z)))]) [2, 1, 0, 5, 6, 7, 8] rfl ?_
          rw [show saT (d + 1) ((s, m), some (c, l, r)) x y z = saT d r x y z from if_neg (by unfold msr; (repeat' split) <;> omega)]
          exact ih (D + 1) r (p + 1 + nN d l) (v + 1) b2 ok.2.2.2 (by omega) (by omega) (by omega)
        · skip
          refine J_iload (i := 4) (pc := 73) dX1_sortFor_73 rfl ?_
          refine J_iconst (v := nI (1)) (pc := 75) dX1_sortFor_75 rfl ?_
          refine J_iaddN (pc := 76) dX1_sortFor_76 ?_
          refine J_goto (tgt := 82) (pc := 77) dX1_sortFor_77 (by decide) ?_
          refine J_istore (i := 4) (lv' := [(4, .int (nI (p + 1))), (8, .int (nI (x))), (7, .int (nI (c / 51))), (5, .int (nI (p + 1 + nN d l))), (6, .int (nI (v))), (0, .ref (t)), (1, .int (nI (x))), (2, .int (nI (y))), (3, .int (nI (z)))]) (pc := 82) dX1_sortFor_82 (by decide) rfl ?_
          refine J_aload_n (i := 0) (pc := 84) dX1_sortFor_84 rfl rfl ?_
          refine J_iload (i := 4) (pc := 85) dX1_sortFor_85 rfl ?_
          refine J_cVi (st := []) (As := [.int (nI (p + 1))]) (pc := 87) dX1_sortFor_87 okX1_highPartAt q2_14 q2_15 q2_16 (rfl : vwCl[1]? = some _) k0 rfl (Nat.le_of_ble_eq_true rfl) (Nat.le_of_ble_eq_true rfl) (c_highG hT hn b1 ok.2.2.1 (by omega) (by omega)) ?_
          refine J_istore (i := 5) (lv' := [(5, .int (enc (hgT d l (p + 1)))), (4, .int (nI (p + 1))), (8, .int (nI (x))), (7, .int (nI (c / 51))), (6, .int (nI (v))), (0, .ref (t)), (1, .int (nI (x))), (2, .int (nI (y))), (3, .int (nI (z)))]) (pc := 90) dX1_sortFor_90 (by decide) rfl ?_
          refine J_iinc (i := 6) (v := nI (v + 1)) (lv' := [(6, .int (nI (v + 1))), (5, .int (enc (hgT d l (p + 1)))), (4, .int (nI (p + 1))), (8, .int (nI (x))), (7, .int (nI (c / 51))), (0, .ref (t)), (1, .int (nI (x))), (2, .int (nI (y))), (3, .int (nI (z)))]) (pc := 92) dX1_sortFor_92 rfl (nI_add (v) 1) (by decide) rfl ?_
          refine J_goto (tgt := 13) (pc := 95) dX1_sortFor_95 (by decide) ?_
          refine J_sub (lv' := [(4, .int (nI (p + 1))), (5, .int (enc (hgT d l (p + 1)))), (6, .int (nI (v + 1))), (0, .ref (t)), (1, .int (nI (x))), (2, .int (nI (y))), (3, .int (nI (z)))]) [2, 1, 0, 5, 6, 7, 8] rfl ?_
          rw [show saT (d + 1) ((s, m), some (c, l, r)) x y z = saT d l x y z from if_pos (by unfold msr; (repeat' split) <;> omega)]
          exact ih (D + 1) l (p + 1) (v + 1) b1 ok.2.2.1 (by omega) (by omega) (by omega)
theorem c_sortFor {g : GT} {dd : Nat} {h : MH} {t : Nat} {pa le : Int32} {cf sf gf df mf rf : Nat → Int32} {n x y z d : Nat} {tr : TR d} (hT : TO h t (nI n) pa le cf sf gf df mf rf) (hn : n ≤ 39) (hx : x ≤ 50) (hy : y ≤ 50) (hz : z ≤ 50) (hK : Blk (G4 cf sf gf df) 0 d 0 tr) (ok : okT d tr) (hd : d ≤ 5) (hN : nN d tr = n) :
    J g (dd + 1) 0 0 mX1_sortFor 0 (lv_args 0 [.ref t, .int (nI x), .int (nI y), .int (nI z)]) [] h (RI (nI (saT d tr x y z)) h) := by
  obtain ⟨k0, k1, k2, k3, k4, k5, k6⟩ := id hT
  refine J_iconst (v := nI (0)) (pc := 0) dX1_sortFor_0 rfl ?_
  refine J_istore (i := 4) (lv' := [(4, .int (nI (0))), (0, .ref (t)), (1, .int (nI (x))), (2, .int (nI (y))), (3, .int (nI (z)))]) (pc := 1) dX1_sortFor_1 (by decide) rfl ?_
  refine J_aload_n (i := 0) (pc := 3) dX1_sortFor_3 rfl rfl ?_
  refine J_iconst (v := nI (0)) (pc := 4) dX1_sortFor_4 rfl ?_
  refine J_cVi (st := []) (As := [.int (nI (0))]) (pc := 5) dX1_sortFor_5 okX1_highPartAt q2_14 q2_15 q2_16 (rfl : vwCl[1]? = some _) k0 rfl (Nat.le_of_ble_eq_true rfl) (Nat.le_of_ble_eq_true rfl) (c_highG hT hn hK ok (by omega) (by omega)) ?_
  refine J_istore (i := 5) (lv' := [(5, .int (enc (hgT d tr 0))), (4, .int (nI (0))), (0, .ref (t)), (1, .int (nI (x))), (2, .int (nI (y))), (3, .int (nI (z)))]) (pc := 8) dX1_sortFor_8 (by decide) rfl ?_
  refine J_iconst (v := nI (0)) (pc := 10) dX1_sortFor_10 rfl ?_
  refine J_istore (i := 6) (lv' := [(6, .int (nI (0))), (5, .int (enc (hgT d tr 0))), (4, .int (nI (0))), (0, .ref (t)), (1, .int (nI (x))), (2, .int (nI (y))), (3, .int (nI (z)))]) (pc := 11) dX1_sortFor_11 (by decide) rfl ?_
  refine J_sub (lv' := [(4, .int (nI (0))), (5, .int (enc (hgT d tr 0))), (6, .int (nI (0))), (0, .ref (t)), (1, .int (nI (x))), (2, .int (nI (y))), (3, .int (nI (z)))]) [2, 1, 0, 3, 4, 5, 6] rfl ?_
  exact so_loop hT hn hx hy hz d 0 tr 0 0 hK ok (by omega) (by omega) (by omega)
