-- the grove: what is told of nodes, trees, beans; votes
def hiT : (d : Nat) → TR d → Nat → Option Nat
  | 0, _, _ => none
  | _ + 1, (_, none), _ => none
  | d + 1, (_, some (_, l, _)), 0 => some (1 + nN d l)
  | d + 1, (_, some (_, l, r)), q + 1 => if q < nN d l then (hiT d l q).map (fun z => z + 1) else (hiT d r (q - nN d l)).map (fun z => z + (1 + nN d l))
def lvT : (d : Nat) → TR d → Nat
  | 0, _ => 1
  | _ + 1, (_, none) => 1
  | d + 1, (_, some (_, l, r)) => lvT d l + lvT d r
def dpT : (d : Nat) → TR d → Nat
  | 0, _ => 0
  | _ + 1, (_, none) => 0
  | d + 1, (_, some (_, l, r)) => 1 + max (dpT d l) (dpT d r)
theorem map_map_add (o : Option Nat) (a b : Nat) : (o.map (fun z => z + a)).map (fun z => b + z) = o.map (fun z => b + a + z) := by
  cases o with
  | none => rfl
  | some z =>
    show some (b + (z + a)) = some (b + a + z)
    congr 1
    omega
theorem c_highAt {g : GT} {dd : Nat} {h : MH} {t : Nat} {pa le : Int32} {cf sf gf df mf rf : Nat → Int32} {n : Nat} (hT : TO h t (nI n) pa le cf sf gf df mf rf) (hn : n ≤ 39) : ∀ (d D : Nat) (tr : TR d) (p q : Nat), Blk (G4 cf sf gf df) p d D tr → okT d tr → D + d < 1000 → p + nN d tr ≤ n → q < nN d tr → J g dd 0 0 mX1_highPartAt 0 (lv_args 0 [.ref t, .int (nI (p + q))]) [] h (RI (enc ((hiT d tr q).map (fun z => p + z))) h)
  | 0, D, (s, m), p, q, hK, ok, hD, hp, hq => by
    have hq2 : q < 1 := hq
    have hp2 : p + 1 ≤ n := hp
    obtain rfl : q = 0 := by omega
    exact c_highL hT hn (congrArg (fun q : Q4 => q.1) (Blk_0 hK)) (by omega)
  | d + 1, D, tr, p, q, hK, ok, hD, hp, hq => by
    rcases TR_c tr with ⟨s, m, rfl⟩ | ⟨s, m, c, l, r, rfl⟩
    · have hq2 : q < 1 := hq
      have hp2 : p + 1 ≤ n := hp
      obtain rfl : q = 0 := by omega
      exact c_highL hT hn (congrArg (fun q : Q4 => q.1) (Blk_l hK)) (by omega)
    · obtain ⟨b0, b1, b2⟩ := Blk_f hK
      rw [nN_f] at hp hq
      cases q with
      | zero =>
        have r9 := c_high (g := g) (dd := dd) hT hn hK ok.2.1 (by omega) (by rw [nN_f]; omega)
        show J g dd 0 0 mX1_highPartAt 0 (lv_args 0 [.ref t, .int (nI p)]) [] h (RI (nI (p + (1 + nN d l))) h)
        rw [← Nat.add_assoc]
        exact r9
      | succ q =>
        rw [hiT]
        split
        · rename_i e
          rw [map_map_add, show p + (q + 1) = p + 1 + q by omega]
          exact c_highAt hT hn d (D + 1) l (p + 1) q b1 ok.2.2.1 (by omega) (by omega) e
        · rename_i e
          rw [map_map_add, show p + (q + 1) = p + 1 + nN d l + (q - nN d l) by omega, show p + (1 + nN d l) = p + 1 + nN d l by omega]
          exact c_highAt hT hn d (D + 1) r (p + 1 + nN d l) (q - nN d l) b2 ok.2.2.2 (by omega) (by omega) (by omega)

theorem lv_sum : ∀ (d D : Nat) (t : TR d) (p : Nat) (f : Nat → Nat), (∀ q, q < nN d t → f (p + q) = isL (rowT d D t q).1) → sumP f (nN d t) p = lvT d t
  | 0, D, (s, m), p, f, h => h 0 Nat.one_pos
  | d + 1, D, t, p, f, h => by
    rcases TR_c t with ⟨s, m, rfl⟩ | ⟨s, m, c, l, r, rfl⟩
    · exact h 0 Nat.one_pos
    · have h0 : f (p + 0) = 0 := h 0 (by rw [nN_f]; omega)
      rw [nN_f, Nat.add_assoc, sumP_add, sumP_add]
      rw [lv_sum d (D + 1) l (p + 1) f, lv_sum d (D + 1) r (p + 1 + nN d l) f]
      · show f p + 0 + _ = _
        rw [show f p = 0 from h0, Nat.zero_add]
        rfl
      · intro q hq
        have h1 := h (nN d l + q + 1) (by rw [nN_f]; omega)
        rw [show p + (nN d l + q + 1) = p + 1 + nN d l + q by omega, rowT, if_neg (by omega), show nN d l + q - nN d l = q by omega] at h1
        exact h1
      · intro q hq
        have h1 := h (q + 1) (by rw [nN_f]; omega)
        rw [show p + (q + 1) = p + 1 + q by omega, rowT, if_pos hq] at h1
        exact h1
theorem dp_max : ∀ (d D : Nat) (t : TR d) (p : Nat) (f : Nat → Nat), (∀ q, q < nN d t → f (p + q) = (rowT d D t q).2.2.2) → maxP f (nN d t) p = D + dpT d t
  | 0, D, (s, m), p, f, h => by
    have h0 : f p = D := h 0 Nat.one_pos
    show max (f p) 0 = D + 0
    omega
  | d + 1, D, t, p, f, h => by
    rcases TR_c t with ⟨s, m, rfl⟩ | ⟨s, m, c, l, r, rfl⟩
    · have h0 : f p = D := h 0 Nat.one_pos
      show max (f p) 0 = D + 0
      omega
    · have h0 : f p = D := h 0 (by rw [nN_f]; omega)
      rw [nN_f, Nat.add_assoc, maxP_add, maxP_add]
      rw [dp_max d (D + 1) l (p + 1) f, dp_max d (D + 1) r (p + 1 + nN d l) f]
      · show max (max (f p) 0) _ = D + (1 + max (dpT d l) (dpT d r))
        omega
      · intro q hq
        have h1 := h (nN d l + q + 1) (by rw [nN_f]; omega)
        rw [show p + (nN d l + q + 1) = p + 1 + nN d l + q by omega, rowT, if_neg (by omega), show nN d l + q - nN d l = q by omega] at h1
        exact h1
      · intro q hq
        have h1 := h (q + 1) (by rw [nN_f]; omega)
        rw [show p + (q + 1) = p + 1 + q by omega, rowT, if_pos hq] at h1
        exact h1
/-- what is told of a node -/
def ndS (t : TR 5) (p w : Nat) : Option Nat :=
  if w = 0 then (rowT 5 0 t p).1.map (fun n => n / 51) else if w = 1 then (rowT 5 0 t p).1.map (fun n => n % 51) else if w = 2 then some (rowT 5 0 t p).2.1 else if w = 3 then some (rowT 5 0 t p).2.2.1 else if w = 4 then some (rowT 5 0 t p).2.2.2
  else if w = 5 then (rowT 5 0 t p).1.map (fun _ => p + 1) else hiT 5 t p
def cV (σ : ST) (a b c s : Nat) : Nat := sumP (fun i => if saT 5 (σ.2.2.1 i) a b c = s then 1 else 0) σ.2.1.1 0
def vtF (f : Nat → Nat) : Nat → Nat → Option Nat × Nat → Option Nat × Nat
  | 0, _, x => x
  | k + 1, s, x => vtF f k (s + 1) (if x.2 < f s then (some s, f s) else x)
def vS (σ : ST) (a b c : Nat) : Option Nat := (vtF (cV σ a b c) 3 0 (none, 0)).1
theorem vtF_P (f : Nat → Nat) : ∀ (k s : Nat) (x : Option Nat × Nat), s + k ≤ 3 → (∀ z, x.1 = some z → z ≤ 2) → ∀ z, (vtF f k s x).1 = some z → z ≤ 2
  | 0, _, _, _, h => h
  | k + 1, s, x, hs, h => vtF_P f k (s + 1) _ (by omega) (by
    split
    · intro z e
      cases e
      omega
    · exact h)
theorem vS_le {σ : ST} {a b c z : Nat} (h : vS σ a b c = some z) : z ≤ 2 := vtF_P _ 3 0 (none, 0) (by omega) (fun z e => by cases e) z h
def vrS (σ : ST) (X : Nat) : Nat := sumP (fun b => if X.testBit b = true ∧ vS σ (σ.1.2.2.1 0 b) (σ.1.2.2.1 1 b) (σ.1.2.2.1 2 b) = some (σ.1.2.2.2 b) then 1 else 0) σ.1.1 0
def ctS (σ : ST) (w : Nat) : Nat := if w = 0 then σ.1.1 else if w = 1 then cnt σ.1.2.1 else if w = 2 then σ.2.1.1 else if w = 3 then vrS σ (gro σ.1) else if w = 4 then vrS σ σ.1.2.1 else if w = 5 then σ.2.1.2.1 else σ.2.1.2.2
def toS (σ : ST) (k w : Nat) : Nat := if w < 3 then σ.1.2.2.1 w k else if w = 3 then σ.1.2.2.2 k else if σ.1.2.1.testBit k = true then 1 else 0
theorem toS4f {σ : ST} {k : Nat} (h : σ.1.2.1.testBit k = false) : toS σ k 4 = 0 := by
  unfold toS
  rw [if_neg (by decide), if_neg (by decide), if_neg (by rw [h]; decide)]
theorem toS4t {σ : ST} {k : Nat} (h : σ.1.2.1.testBit k = true) : toS σ k 4 = 1 := by
  unfold toS
  rw [if_neg (by decide), if_neg (by decide), if_pos h]
theorem enc_eq {v : Option Nat} {s : Nat} (hv : ∀ z, v = some z → z < 2 ^ 31) (hs : s < 2 ^ 31) : enc v = nI s ↔ v = some s := by
  cases v with
  | none =>
    constructor
    · intro e
      have h0 := nI_pos (n := s) hs
      rw [← e] at h0
      exact absurd (by decide) h0
    · intro e
      cases e
  | some z =>
    constructor
    · intro e
      exact congrArg some (nI_inj (by have := hv z rfl; omega) (by omega) e)
    · intro e
      cases e
      rfl

theorem c_hasPlaceT {g : GT} {dd : Nat} {h : MH} {t : Nat} {pa le : Int32} {cf sf gf df mf rf : Nat → Int32} {n p : Nat} (hT : TO h t (nI n) pa le cf sf gf df mf rf) (hn : n ≤ 39) (hp : p < n) : J g dd 0 0 mX1_hasPlace 0 (lv_args 0 [.ref t, .int (nI p)]) [] h (RI (nI 1) h) := by
  have r := c_hasPlace (g := g) (dd := dd) (p := 0) hT hn (x := nI p) (by omega)
  rw [okR_nI (by omega) (by decide) (by omega), decide_eq_true (Nat.zero_le p), decide_eq_true (show p ≤ n - 1 by omega)] at r
  exact r
theorem c_hasPlaceF {g : GT} {dd : Nat} {h : MH} {t : Nat} {pa le : Int32} {cf sf gf df mf rf : Nat → Int32} {n : Nat} {x : Int32} (hT : TO h t (nI n) pa le cf sf gf df mf rf) (hn : n ≤ 39) (hn1 : 1 ≤ n) (hx : ¬ (0 ≤ x.toInt ∧ x.toInt < (n : Int))) : J g dd 0 0 mX1_hasPlace 0 (lv_args 0 [.ref t, .int x]) [] h (RI (nI 0) h) := by
  have r := c_hasPlace (g := g) (dd := dd) (p := 0) hT hn (x := x) hn1
  rw [okR_f (lo := 0) (hi := n - 1) (by omega) (by decide) (by omega)] at r
  exact r

set_option maxHeartbeats 2000000 in
set_option maxRecDepth 20000 in
theorem c_node0 {g : GT} {d : Nat} {h : MH} {σ : ST} {π : Nat → Nat} (hG : GP h σ π) {j : Nat} (hj : j < σ.2.1.1) {p : Nat} (hp : p < nN 5 (σ.2.2.1 j)) : J g (d + 2) 0 0 mX2_node 0 (lv_args 0 [.ref 1, .int (nI (j)), .int (nI (p)), .int (nI (0))]) [] h (RI (enc (ndS (σ.2.2.1 j) p 0)) h) := by
  obtain ⟨g1, g2, g3, g4, ⟨tf, g5, g5b⟩, g6, g7, g8⟩ := id hG
  obtain ⟨o1, o2, o3, o4⟩ := id g2
  have hB := g1
  have b9 := BH_2 g1
  obtain ⟨hn, hc9, hm5, hs2⟩ := id g1.1
  have hp9 := pw_le hn
  have hj5 : j < 5 := by omega
  obtain ⟨cf, sf, gf, df, mf, rf, hT, hK⟩ := g8 j hj
  obtain ⟨okj, n39⟩ := o4 j hj
  have n1 := nN_pos 5 (σ.2.2.1 j)
  obtain ⟨p18, p46, fs, hfs⟩ := GP_tr hG hj5
  have hG0 : G4 cf sf gf df p = E4 (rowT 5 0 (σ.2.2.1 j) p) := by
    have r := hK p hp
    rw [Nat.zero_add] at r
    exact r
  have okr := ok_row 5 0 (σ.2.2.1 j) p okj hp
  have e1 : cf p = enc (rowT 5 0 (σ.2.2.1 j) p).1 := congrArg (fun q : Q4 => q.1) hG0
  have hc31 : ∀ n, (rowT 5 0 (σ.2.2.1 j) p).1 = some n → n < 2 ^ 31 := fun n e => by have := okr.1 n e; omega
  refine J_aload_n (i := 0) (pc := 0) dX2_node_0 rfl rfl ?_
  refine J_iload_n (i := 1) (pc := 1) dX2_node_1 rfl rfl ?_
  refine J_cVi (st := []) (As := [.int (nI (j))]) (pc := 2) dX2_node_2 okX2_isTree q1_233 q1_235 qs1_6 (rfl : vwCl[2]? = some _) g4 rfl (Nat.le_of_ble_eq_true rfl) (Nat.le_of_ble_eq_true rfl) (c_isTreeT hG hj) ?_
  refine J_if_eqN (tgt := 21) (pc := 5) dX2_node_5 (by decide) (by omega) (fun c5 => by exfalso; first | omega | simp_all) (fun c5 => ?_)
  refine J_aload_n (i := 0) (pc := 8) dX2_node_8 rfl rfl ?_
  refine J_getf (k := 1) (pc := 9) dX2_node_9 flX2_18 g4 rfl ?_
  refine J_iload_n (i := 1) (pc := 12) dX2_node_12 rfl rfl ?_
  refine J_aald (j := j) (b := π j) (pc := 13) dX2_node_13 (by decide) g5 rfl (by omega) (by omega) (g5b j hj5) ?_
  refine J_iload_n (i := 2) (pc := 14) dX2_node_14 rfl rfl ?_
  refine J_cVi (st := []) (As := [.int (nI (p))]) (pc := 15) dX2_node_15 okX1_hasPlace q2_27 q2_28 q2_29 (rfl : vwCl[1]? = some _) hfs rfl (Nat.le_of_ble_eq_true rfl) (Nat.le_of_ble_eq_true rfl) (c_hasPlaceT hT n39 hp) ?_
  refine J_if_neN (tgt := 31) (pc := 18) dX2_node_18 (by decide) (by omega) (fun c18 => ?_) (fun c18 => by exfalso; first | omega | simp_all)
  refine J_iload_n (i := 3) (pc := 31) dX2_node_31 rfl rfl ?_
  refine J_if_lt (tgt := 41) (pc := 32) dX2_node_32 (by decide) (fun c32 => absurd c32 (nI_pos (by decide))) (fun c32 => ?_)
  refine J_iload_n (i := 3) (pc := 35) dX2_node_35 rfl rfl ?_
  refine J_bipush (v := nI (6)) (pc := 36) dX2_node_36 rfl ?_
  refine J_icmp_leN (tgt := 51) (pc := 38) dX2_node_38 (by decide) (by omega) (by omega) (fun c38 => ?_) (fun c38 => by exfalso; first | omega | simp_all)
  refine J_aload_n (i := 0) (pc := 51) dX2_node_51 rfl rfl ?_
  refine J_getf (k := 1) (pc := 52) dX2_node_52 flX2_18 g4 rfl ?_
  refine J_iload_n (i := 1) (pc := 55) dX2_node_55 rfl rfl ?_
  refine J_aald (j := j) (b := π j) (pc := 56) dX2_node_56 (by decide) g5 rfl (by omega) (by omega) (g5b j hj5) ?_
  refine J_astore (i := 4) (lv' := [(4, .ref (π j)), (0, .ref (1)), (1, .int (nI (j))), (2, .int (nI (p))), (3, .int (nI (0)))]) (pc := 57) dX2_node_57 (by decide) rfl ?_
  refine J_iload_n (i := 3) (pc := 59) dX2_node_59 rfl rfl ?_
  refine J_tableIn (off := 40) (tgt := 100) (pc := 60) dX2_node_60 (by decide) (by decide) (by decide +kernel) (by decide) ?_
  refine J_aload (i := 4) (pc := 100) dX2_node_100 rfl ?_
  refine J_iload_n (i := 2) (pc := 102) dX2_node_102 rfl rfl ?_
  refine J_cVi (st := []) (As := [.int (nI (p))]) (pc := 103) dX2_node_103 okX1_measureAt q2_33 q2_34 q2_35 (rfl : vwCl[1]? = some _) hfs rfl (Nat.le_of_ble_eq_true rfl) (Nat.le_of_ble_eq_true rfl) (c_measureAt hT n39 hc31 e1 hp) ?_
  refine J_iret (ty := .int) (pc := 106) dX2_node_106 rfl rfl ?_
  exact ⟨rfl, rfl⟩

set_option maxHeartbeats 2000000 in
set_option maxRecDepth 20000 in
theorem c_node1 {g : GT} {d : Nat} {h : MH} {σ : ST} {π : Nat → Nat} (hG : GP h σ π) {j : Nat} (hj : j < σ.2.1.1) {p : Nat} (hp : p < nN 5 (σ.2.2.1 j)) : J g (d + 2) 0 0 mX2_node 0 (lv_args 0 [.ref 1, .int (nI (j)), .int (nI (p)), .int (nI (1))]) [] h (RI (enc (ndS (σ.2.2.1 j) p 1)) h) := by
  obtain ⟨g1, g2, g3, g4, ⟨tf, g5, g5b⟩, g6, g7, g8⟩ := id hG
  obtain ⟨o1, o2, o3, o4⟩ := id g2
  have hB := g1
  have b9 := BH_2 g1
  obtain ⟨hn, hc9, hm5, hs2⟩ := id g1.1
  have hp9 := pw_le hn
  have hj5 : j < 5 := by omega
  obtain ⟨cf, sf, gf, df, mf, rf, hT, hK⟩ := g8 j hj
  obtain ⟨okj, n39⟩ := o4 j hj
  have n1 := nN_pos 5 (σ.2.2.1 j)
  obtain ⟨p18, p46, fs, hfs⟩ := GP_tr hG hj5
  have hG0 : G4 cf sf gf df p = E4 (rowT 5 0 (σ.2.2.1 j) p) := by
    have r := hK p hp
    rw [Nat.zero_add] at r
    exact r
  have okr := ok_row 5 0 (σ.2.2.1 j) p okj hp
  have e1 : cf p = enc (rowT 5 0 (σ.2.2.1 j) p).1 := congrArg (fun q : Q4 => q.1) hG0
  have hc31 : ∀ n, (rowT 5 0 (σ.2.2.1 j) p).1 = some n → n < 2 ^ 31 := fun n e => by have := okr.1 n e; omega
  refine J_aload_n (i := 0) (pc := 0) dX2_node_0 rfl rfl ?_
  refine J_iload_n (i := 1) (pc := 1) dX2_node_1 rfl rfl ?_
  refine J_cVi (st := []) (As := [.int (nI (j))]) (pc := 2) dX2_node_2 okX2_isTree q1_233 q1_235 qs1_6 (rfl : vwCl[2]? = some _) g4 rfl (Nat.le_of_ble_eq_true rfl) (Nat.le_of_ble_eq_true rfl) (c_isTreeT hG hj) ?_
  refine J_if_eqN (tgt := 21) (pc := 5) dX2_node_5 (by decide) (by omega) (fun c5 => by exfalso; first | omega | simp_all) (fun c5 => ?_)
  refine J_aload_n (i := 0) (pc := 8) dX2_node_8 rfl rfl ?_
  refine J_getf (k := 1) (pc := 9) dX2_node_9 flX2_18 g4 rfl ?_
  refine J_iload_n (i := 1) (pc := 12) dX2_node_12 rfl rfl ?_
  refine J_aald (j := j) (b := π j) (pc := 13) dX2_node_13 (by decide) g5 rfl (by omega) (by omega) (g5b j hj5) ?_
  refine J_iload_n (i := 2) (pc := 14) dX2_node_14 rfl rfl ?_
  refine J_cVi (st := []) (As := [.int (nI (p))]) (pc := 15) dX2_node_15 okX1_hasPlace q2_27 q2_28 q2_29 (rfl : vwCl[1]? = some _) hfs rfl (Nat.le_of_ble_eq_true rfl) (Nat.le_of_ble_eq_true rfl) (c_hasPlaceT hT n39 hp) ?_
  refine J_if_neN (tgt := 31) (pc := 18) dX2_node_18 (by decide) (by omega) (fun c18 => ?_) (fun c18 => by exfalso; first | omega | simp_all)
  refine J_iload_n (i := 3) (pc := 31) dX2_node_31 rfl rfl ?_
  refine J_if_lt (tgt := 41) (pc := 32) dX2_node_32 (by decide) (fun c32 => absurd c32 (nI_pos (by decide))) (fun c32 => ?_)
  refine J_iload_n (i := 3) (pc := 35) dX2_node_35 rfl rfl ?_
  refine J_bipush (v := nI (6)) (pc := 36) dX2_node_36 rfl ?_
  refine J_icmp_leN (tgt := 51) (pc := 38) dX2_node_38 (by decide) (by omega) (by omega) (fun c38 => ?_) (fun c38 => by exfalso; first | omega | simp_all)
  refine J_aload_n (i := 0) (pc := 51) dX2_node_51 rfl rfl ?_
  refine J_getf (k := 1) (pc := 52) dX2_node_52 flX2_18 g4 rfl ?_
  refine J_iload_n (i := 1) (pc := 55) dX2_node_55 rfl rfl ?_
  refine J_aald (j := j) (b := π j) (pc := 56) dX2_node_56 (by decide) g5 rfl (by omega) (by omega) (g5b j hj5) ?_
  refine J_astore (i := 4) (lv' := [(4, .ref (π j)), (0, .ref (1)), (1, .int (nI (j))), (2, .int (nI (p))), (3, .int (nI (1)))]) (pc := 57) dX2_node_57 (by decide) rfl ?_
  refine J_iload_n (i := 3) (pc := 59) dX2_node_59 rfl rfl ?_
  refine J_tableIn (off := 47) (tgt := 107) (pc := 60) dX2_node_60 (by decide) (by decide) (by decide +kernel) (by decide) ?_
  refine J_aload (i := 4) (pc := 107) dX2_node_107 rfl ?_
  refine J_iload_n (i := 2) (pc := 109) dX2_node_109 rfl rfl ?_
  refine J_cVi (st := []) (As := [.int (nI (p))]) (pc := 110) dX2_node_110 okX1_numberAt q2_40 q2_41 q2_42 (rfl : vwCl[1]? = some _) hfs rfl (Nat.le_of_ble_eq_true rfl) (Nat.le_of_ble_eq_true rfl) (c_numberAt hT n39 hc31 e1 hp) ?_
  refine J_iret (ty := .int) (pc := 113) dX2_node_113 rfl rfl ?_
  exact ⟨rfl, rfl⟩

set_option maxHeartbeats 2000000 in
set_option maxRecDepth 20000 in
theorem c_node2 {g : GT} {d : Nat} {h : MH} {σ : ST} {π : Nat → Nat} (hG : GP h σ π) {j : Nat} (hj : j < σ.2.1.1) {p : Nat} (hp : p < nN 5 (σ.2.2.1 j)) : J g (d + 2) 0 0 mX2_node 0 (lv_args 0 [.ref 1, .int (nI (j)), .int (nI (p)), .int (nI (2))]) [] h (RI (enc (ndS (σ.2.2.1 j) p 2)) h) := by
  obtain ⟨g1, g2, g3, g4, ⟨tf, g5, g5b⟩, g6, g7, g8⟩ := id hG
  obtain ⟨o1, o2, o3, o4⟩ := id g2
  have hB := g1
  have b9 := BH_2 g1
  obtain ⟨hn, hc9, hm5, hs2⟩ := id g1.1
  have hp9 := pw_le hn
  have hj5 : j < 5 := by omega
  obtain ⟨cf, sf, gf, df, mf, rf, hT, hK⟩ := g8 j hj
  obtain ⟨okj, n39⟩ := o4 j hj
  have n1 := nN_pos 5 (σ.2.2.1 j)
  obtain ⟨p18, p46, fs, hfs⟩ := GP_tr hG hj5
  have hG0 : G4 cf sf gf df p = E4 (rowT 5 0 (σ.2.2.1 j) p) := by
    have r := hK p hp
    rw [Nat.zero_add] at r
    exact r
  have okr := ok_row 5 0 (σ.2.2.1 j) p okj hp
  have e1 : cf p = enc (rowT 5 0 (σ.2.2.1 j) p).1 := congrArg (fun q : Q4 => q.1) hG0
  have hc31 : ∀ n, (rowT 5 0 (σ.2.2.1 j) p).1 = some n → n < 2 ^ 31 := fun n e => by have := okr.1 n e; omega
  refine J_aload_n (i := 0) (pc := 0) dX2_node_0 rfl rfl ?_
  refine J_iload_n (i := 1) (pc := 1) dX2_node_1 rfl rfl ?_
  refine J_cVi (st := []) (As := [.int (nI (j))]) (pc := 2) dX2_node_2 okX2_isTree q1_233 q1_235 qs1_6 (rfl : vwCl[2]? = some _) g4 rfl (Nat.le_of_ble_eq_true rfl) (Nat.le_of_ble_eq_true rfl) (c_isTreeT hG hj) ?_
  refine J_if_eqN (tgt := 21) (pc := 5) dX2_node_5 (by decide) (by omega) (fun c5 => by exfalso; first | omega | simp_all) (fun c5 => ?_)
  refine J_aload_n (i := 0) (pc := 8) dX2_node_8 rfl rfl ?_
  refine J_getf (k := 1) (pc := 9) dX2_node_9 flX2_18 g4 rfl ?_
  refine J_iload_n (i := 1) (pc := 12) dX2_node_12 rfl rfl ?_
  refine J_aald (j := j) (b := π j) (pc := 13) dX2_node_13 (by decide) g5 rfl (by omega) (by omega) (g5b j hj5) ?_
  refine J_iload_n (i := 2) (pc := 14) dX2_node_14 rfl rfl ?_
  refine J_cVi (st := []) (As := [.int (nI (p))]) (pc := 15) dX2_node_15 okX1_hasPlace q2_27 q2_28 q2_29 (rfl : vwCl[1]? = some _) hfs rfl (Nat.le_of_ble_eq_true rfl) (Nat.le_of_ble_eq_true rfl) (c_hasPlaceT hT n39 hp) ?_
  refine J_if_neN (tgt := 31) (pc := 18) dX2_node_18 (by decide) (by omega) (fun c18 => ?_) (fun c18 => by exfalso; first | omega | simp_all)
  refine J_iload_n (i := 3) (pc := 31) dX2_node_31 rfl rfl ?_
  refine J_if_lt (tgt := 41) (pc := 32) dX2_node_32 (by decide) (fun c32 => absurd c32 (nI_pos (by decide))) (fun c32 => ?_)
  refine J_iload_n (i := 3) (pc := 35) dX2_node_35 rfl rfl ?_
  refine J_bipush (v := nI (6)) (pc := 36) dX2_node_36 rfl ?_
  refine J_icmp_leN (tgt := 51) (pc := 38) dX2_node_38 (by decide) (by omega) (by omega) (fun c38 => ?_) (fun c38 => by exfalso; first | omega | simp_all)
  refine J_aload_n (i := 0) (pc := 51) dX2_node_51 rfl rfl ?_
  refine J_getf (k := 1) (pc := 52) dX2_node_52 flX2_18 g4 rfl ?_
  refine J_iload_n (i := 1) (pc := 55) dX2_node_55 rfl rfl ?_
  refine J_aald (j := j) (b := π j) (pc := 56) dX2_node_56 (by decide) g5 rfl (by omega) (by omega) (g5b j hj5) ?_
  refine J_astore (i := 4) (lv' := [(4, .ref (π j)), (0, .ref (1)), (1, .int (nI (j))), (2, .int (nI (p))), (3, .int (nI (2)))]) (pc := 57) dX2_node_57 (by decide) rfl ?_
  refine J_iload_n (i := 3) (pc := 59) dX2_node_59 rfl rfl ?_
  refine J_tableIn (off := 54) (tgt := 114) (pc := 60) dX2_node_60 (by decide) (by decide) (by decide +kernel) (by decide) ?_
  refine J_aload (i := 4) (pc := 114) dX2_node_114 rfl ?_
  refine J_iload_n (i := 2) (pc := 116) dX2_node_116 rfl rfl ?_
  refine J_cVi (st := []) (As := [.int (nI (p))]) (pc := 117) dX2_node_117 okX1_sortAt q2_47 q2_48 q2_49 (rfl : vwCl[1]? = some _) hfs rfl (Nat.le_of_ble_eq_true rfl) (Nat.le_of_ble_eq_true rfl) (c_sortAt hT n39 hp) ?_
  refine J_iret (ty := .int) (pc := 120) dX2_node_120 rfl rfl ?_
  exact ⟨congrArg (fun z : Int32 => (Sum.inl (some (Value.int z)) : RT)) (by exact congrArg (fun q : Q4 => q.2.1) hG0), rfl⟩

set_option maxHeartbeats 2000000 in
set_option maxRecDepth 20000 in
theorem c_node3 {g : GT} {d : Nat} {h : MH} {σ : ST} {π : Nat → Nat} (hG : GP h σ π) {j : Nat} (hj : j < σ.2.1.1) {p : Nat} (hp : p < nN 5 (σ.2.2.1 j)) : J g (d + 2) 0 0 mX2_node 0 (lv_args 0 [.ref 1, .int (nI (j)), .int (nI (p)), .int (nI (3))]) [] h (RI (enc (ndS (σ.2.2.1 j) p 3)) h) := by
  obtain ⟨g1, g2, g3, g4, ⟨tf, g5, g5b⟩, g6, g7, g8⟩ := id hG
  obtain ⟨o1, o2, o3, o4⟩ := id g2
  have hB := g1
  have b9 := BH_2 g1
  obtain ⟨hn, hc9, hm5, hs2⟩ := id g1.1
  have hp9 := pw_le hn
  have hj5 : j < 5 := by omega
  obtain ⟨cf, sf, gf, df, mf, rf, hT, hK⟩ := g8 j hj
  obtain ⟨okj, n39⟩ := o4 j hj
  have n1 := nN_pos 5 (σ.2.2.1 j)
  obtain ⟨p18, p46, fs, hfs⟩ := GP_tr hG hj5
  have hG0 : G4 cf sf gf df p = E4 (rowT 5 0 (σ.2.2.1 j) p) := by
    have r := hK p hp
    rw [Nat.zero_add] at r
    exact r
  have okr := ok_row 5 0 (σ.2.2.1 j) p okj hp
  have e1 : cf p = enc (rowT 5 0 (σ.2.2.1 j) p).1 := congrArg (fun q : Q4 => q.1) hG0
  have hc31 : ∀ n, (rowT 5 0 (σ.2.2.1 j) p).1 = some n → n < 2 ^ 31 := fun n e => by have := okr.1 n e; omega
  refine J_aload_n (i := 0) (pc := 0) dX2_node_0 rfl rfl ?_
  refine J_iload_n (i := 1) (pc := 1) dX2_node_1 rfl rfl ?_
  refine J_cVi (st := []) (As := [.int (nI (j))]) (pc := 2) dX2_node_2 okX2_isTree q1_233 q1_235 qs1_6 (rfl : vwCl[2]? = some _) g4 rfl (Nat.le_of_ble_eq_true rfl) (Nat.le_of_ble_eq_true rfl) (c_isTreeT hG hj) ?_
  refine J_if_eqN (tgt := 21) (pc := 5) dX2_node_5 (by decide) (by omega) (fun c5 => by exfalso; first | omega | simp_all) (fun c5 => ?_)
  refine J_aload_n (i := 0) (pc := 8) dX2_node_8 rfl rfl ?_
  refine J_getf (k := 1) (pc := 9) dX2_node_9 flX2_18 g4 rfl ?_
  refine J_iload_n (i := 1) (pc := 12) dX2_node_12 rfl rfl ?_
  refine J_aald (j := j) (b := π j) (pc := 13) dX2_node_13 (by decide) g5 rfl (by omega) (by omega) (g5b j hj5) ?_
  refine J_iload_n (i := 2) (pc := 14) dX2_node_14 rfl rfl ?_
  refine J_cVi (st := []) (As := [.int (nI (p))]) (pc := 15) dX2_node_15 okX1_hasPlace q2_27 q2_28 q2_29 (rfl : vwCl[1]? = some _) hfs rfl (Nat.le_of_ble_eq_true rfl) (Nat.le_of_ble_eq_true rfl) (c_hasPlaceT hT n39 hp) ?_
  refine J_if_neN (tgt := 31) (pc := 18) dX2_node_18 (by decide) (by omega) (fun c18 => ?_) (fun c18 => by exfalso; first | omega | simp_all)
  refine J_iload_n (i := 3) (pc := 31) dX2_node_31 rfl rfl ?_
  refine J_if_lt (tgt := 41) (pc := 32) dX2_node_32 (by decide) (fun c32 => absurd c32 (nI_pos (by decide))) (fun c32 => ?_)
  refine J_iload_n (i := 3) (pc := 35) dX2_node_35 rfl rfl ?_
  refine J_bipush (v := nI (6)) (pc := 36) dX2_node_36 rfl ?_
  refine J_icmp_leN (tgt := 51) (pc := 38) dX2_node_38 (by decide) (by omega) (by omega) (fun c38 => ?_) (fun c38 => by exfalso; first | omega | simp_all)
  refine J_aload_n (i := 0) (pc := 51) dX2_node_51 rfl rfl ?_
  refine J_getf (k := 1) (pc := 52) dX2_node_52 flX2_18 g4 rfl ?_
  refine J_iload_n (i := 1) (pc := 55) dX2_node_55 rfl rfl ?_
  refine J_aald (j := j) (b := π j) (pc := 56) dX2_node_56 (by decide) g5 rfl (by omega) (by omega) (g5b j hj5) ?_
  refine J_astore (i := 4) (lv' := [(4, .ref (π j)), (0, .ref (1)), (1, .int (nI (j))), (2, .int (nI (p))), (3, .int (nI (3)))]) (pc := 57) dX2_node_57 (by decide) rfl ?_
  refine J_iload_n (i := 3) (pc := 59) dX2_node_59 rfl rfl ?_
  refine J_tableIn (off := 61) (tgt := 121) (pc := 60) dX2_node_60 (by decide) (by decide) (by decide +kernel) (by decide) ?_
  refine J_aload (i := 4) (pc := 121) dX2_node_121 rfl ?_
  refine J_iload_n (i := 2) (pc := 123) dX2_node_123 rfl rfl ?_
  refine J_cVi (st := []) (As := [.int (nI (p))]) (pc := 124) dX2_node_124 okX1_grownAt q2_51 q2_52 q2_53 (rfl : vwCl[1]? = some _) hfs rfl (Nat.le_of_ble_eq_true rfl) (Nat.le_of_ble_eq_true rfl) (c_grownAt hT n39 hp) ?_
  refine J_iret (ty := .int) (pc := 127) dX2_node_127 rfl rfl ?_
  exact ⟨congrArg (fun z : Int32 => (Sum.inl (some (Value.int z)) : RT)) (by exact congrArg (fun q : Q4 => q.2.2.1) hG0), rfl⟩

set_option maxHeartbeats 2000000 in
set_option maxRecDepth 20000 in
theorem c_node4 {g : GT} {d : Nat} {h : MH} {σ : ST} {π : Nat → Nat} (hG : GP h σ π) {j : Nat} (hj : j < σ.2.1.1) {p : Nat} (hp : p < nN 5 (σ.2.2.1 j)) : J g (d + 2) 0 0 mX2_node 0 (lv_args 0 [.ref 1, .int (nI (j)), .int (nI (p)), .int (nI (4))]) [] h (RI (enc (ndS (σ.2.2.1 j) p 4)) h) := by
  obtain ⟨g1, g2, g3, g4, ⟨tf, g5, g5b⟩, g6, g7, g8⟩ := id hG
  obtain ⟨o1, o2, o3, o4⟩ := id g2
  have hB := g1
  have b9 := BH_2 g1
  obtain ⟨hn, hc9, hm5, hs2⟩ := id g1.1
  have hp9 := pw_le hn
  have hj5 : j < 5 := by omega
  obtain ⟨cf, sf, gf, df, mf, rf, hT, hK⟩ := g8 j hj
  obtain ⟨okj, n39⟩ := o4 j hj
  have n1 := nN_pos 5 (σ.2.2.1 j)
  obtain ⟨p18, p46, fs, hfs⟩ := GP_tr hG hj5
  have hG0 : G4 cf sf gf df p = E4 (rowT 5 0 (σ.2.2.1 j) p) := by
    have r := hK p hp
    rw [Nat.zero_add] at r
    exact r
  have okr := ok_row 5 0 (σ.2.2.1 j) p okj hp
  have e1 : cf p = enc (rowT 5 0 (σ.2.2.1 j) p).1 := congrArg (fun q : Q4 => q.1) hG0
  have hc31 : ∀ n, (rowT 5 0 (σ.2.2.1 j) p).1 = some n → n < 2 ^ 31 := fun n e => by have := okr.1 n e; omega
  refine J_aload_n (i := 0) (pc := 0) dX2_node_0 rfl rfl ?_
  refine J_iload_n (i := 1) (pc := 1) dX2_node_1 rfl rfl ?_
  refine J_cVi (st := []) (As := [.int (nI (j))]) (pc := 2) dX2_node_2 okX2_isTree q1_233 q1_235 qs1_6 (rfl : vwCl[2]? = some _) g4 rfl (Nat.le_of_ble_eq_true rfl) (Nat.le_of_ble_eq_true rfl) (c_isTreeT hG hj) ?_
  refine J_if_eqN (tgt := 21) (pc := 5) dX2_node_5 (by decide) (by omega) (fun c5 => by exfalso; first | omega | simp_all) (fun c5 => ?_)
  refine J_aload_n (i := 0) (pc := 8) dX2_node_8 rfl rfl ?_
  refine J_getf (k := 1) (pc := 9) dX2_node_9 flX2_18 g4 rfl ?_
  refine J_iload_n (i := 1) (pc := 12) dX2_node_12 rfl rfl ?_
  refine J_aald (j := j) (b := π j) (pc := 13) dX2_node_13 (by decide) g5 rfl (by omega) (by omega) (g5b j hj5) ?_
  refine J_iload_n (i := 2) (pc := 14) dX2_node_14 rfl rfl ?_
  refine J_cVi (st := []) (As := [.int (nI (p))]) (pc := 15) dX2_node_15 okX1_hasPlace q2_27 q2_28 q2_29 (rfl : vwCl[1]? = some _) hfs rfl (Nat.le_of_ble_eq_true rfl) (Nat.le_of_ble_eq_true rfl) (c_hasPlaceT hT n39 hp) ?_
  refine J_if_neN (tgt := 31) (pc := 18) dX2_node_18 (by decide) (by omega) (fun c18 => ?_) (fun c18 => by exfalso; first | omega | simp_all)
  refine J_iload_n (i := 3) (pc := 31) dX2_node_31 rfl rfl ?_
  refine J_if_lt (tgt := 41) (pc := 32) dX2_node_32 (by decide) (fun c32 => absurd c32 (nI_pos (by decide))) (fun c32 => ?_)
  refine J_iload_n (i := 3) (pc := 35) dX2_node_35 rfl rfl ?_
  refine J_bipush (v := nI (6)) (pc := 36) dX2_node_36 rfl ?_
  refine J_icmp_leN (tgt := 51) (pc := 38) dX2_node_38 (by decide) (by omega) (by omega) (fun c38 => ?_) (fun c38 => by exfalso; first | omega | simp_all)
  refine J_aload_n (i := 0) (pc := 51) dX2_node_51 rfl rfl ?_
  refine J_getf (k := 1) (pc := 52) dX2_node_52 flX2_18 g4 rfl ?_
  refine J_iload_n (i := 1) (pc := 55) dX2_node_55 rfl rfl ?_
  refine J_aald (j := j) (b := π j) (pc := 56) dX2_node_56 (by decide) g5 rfl (by omega) (by omega) (g5b j hj5) ?_
  refine J_astore (i := 4) (lv' := [(4, .ref (π j)), (0, .ref (1)), (1, .int (nI (j))), (2, .int (nI (p))), (3, .int (nI (4)))]) (pc := 57) dX2_node_57 (by decide) rfl ?_
  refine J_iload_n (i := 3) (pc := 59) dX2_node_59 rfl rfl ?_
  refine J_tableIn (off := 68) (tgt := 128) (pc := 60) dX2_node_60 (by decide) (by decide) (by decide +kernel) (by decide) ?_
  refine J_aload (i := 4) (pc := 128) dX2_node_128 rfl ?_
  refine J_iload_n (i := 2) (pc := 130) dX2_node_130 rfl rfl ?_
  refine J_cVi (st := []) (As := [.int (nI (p))]) (pc := 131) dX2_node_131 okX1_depthAt q2_55 q2_56 q2_57 (rfl : vwCl[1]? = some _) hfs rfl (Nat.le_of_ble_eq_true rfl) (Nat.le_of_ble_eq_true rfl) (c_depthAt hT n39 hp) ?_
  refine J_iret (ty := .int) (pc := 134) dX2_node_134 rfl rfl ?_
  exact ⟨congrArg (fun z : Int32 => (Sum.inl (some (Value.int z)) : RT)) (by exact congrArg (fun q : Q4 => q.2.2.2) hG0), rfl⟩

set_option maxHeartbeats 2000000 in
set_option maxRecDepth 20000 in
theorem c_node5 {g : GT} {d : Nat} {h : MH} {σ : ST} {π : Nat → Nat} (hG : GP h σ π) {j : Nat} (hj : j < σ.2.1.1) {p : Nat} (hp : p < nN 5 (σ.2.2.1 j)) : J g (d + 2) 0 0 mX2_node 0 (lv_args 0 [.ref 1, .int (nI (j)), .int (nI (p)), .int (nI (5))]) [] h (RI (enc (ndS (σ.2.2.1 j) p 5)) h) := by
  obtain ⟨g1, g2, g3, g4, ⟨tf, g5, g5b⟩, g6, g7, g8⟩ := id hG
  obtain ⟨o1, o2, o3, o4⟩ := id g2
  have hB := g1
  have b9 := BH_2 g1
  obtain ⟨hn, hc9, hm5, hs2⟩ := id g1.1
  have hp9 := pw_le hn
  have hj5 : j < 5 := by omega
  obtain ⟨cf, sf, gf, df, mf, rf, hT, hK⟩ := g8 j hj
  obtain ⟨okj, n39⟩ := o4 j hj
  have n1 := nN_pos 5 (σ.2.2.1 j)
  obtain ⟨p18, p46, fs, hfs⟩ := GP_tr hG hj5
  have hG0 : G4 cf sf gf df p = E4 (rowT 5 0 (σ.2.2.1 j) p) := by
    have r := hK p hp
    rw [Nat.zero_add] at r
    exact r
  have okr := ok_row 5 0 (σ.2.2.1 j) p okj hp
  have e1 : cf p = enc (rowT 5 0 (σ.2.2.1 j) p).1 := congrArg (fun q : Q4 => q.1) hG0
  have hc31 : ∀ n, (rowT 5 0 (σ.2.2.1 j) p).1 = some n → n < 2 ^ 31 := fun n e => by have := okr.1 n e; omega
  refine J_aload_n (i := 0) (pc := 0) dX2_node_0 rfl rfl ?_
  refine J_iload_n (i := 1) (pc := 1) dX2_node_1 rfl rfl ?_
  refine J_cVi (st := []) (As := [.int (nI (j))]) (pc := 2) dX2_node_2 okX2_isTree q1_233 q1_235 qs1_6 (rfl : vwCl[2]? = some _) g4 rfl (Nat.le_of_ble_eq_true rfl) (Nat.le_of_ble_eq_true rfl) (c_isTreeT hG hj) ?_
  refine J_if_eqN (tgt := 21) (pc := 5) dX2_node_5 (by decide) (by omega) (fun c5 => by exfalso; first | omega | simp_all) (fun c5 => ?_)
  refine J_aload_n (i := 0) (pc := 8) dX2_node_8 rfl rfl ?_
  refine J_getf (k := 1) (pc := 9) dX2_node_9 flX2_18 g4 rfl ?_
  refine J_iload_n (i := 1) (pc := 12) dX2_node_12 rfl rfl ?_
  refine J_aald (j := j) (b := π j) (pc := 13) dX2_node_13 (by decide) g5 rfl (by omega) (by omega) (g5b j hj5) ?_
  refine J_iload_n (i := 2) (pc := 14) dX2_node_14 rfl rfl ?_
  refine J_cVi (st := []) (As := [.int (nI (p))]) (pc := 15) dX2_node_15 okX1_hasPlace q2_27 q2_28 q2_29 (rfl : vwCl[1]? = some _) hfs rfl (Nat.le_of_ble_eq_true rfl) (Nat.le_of_ble_eq_true rfl) (c_hasPlaceT hT n39 hp) ?_
  refine J_if_neN (tgt := 31) (pc := 18) dX2_node_18 (by decide) (by omega) (fun c18 => ?_) (fun c18 => by exfalso; first | omega | simp_all)
  refine J_iload_n (i := 3) (pc := 31) dX2_node_31 rfl rfl ?_
  refine J_if_lt (tgt := 41) (pc := 32) dX2_node_32 (by decide) (fun c32 => absurd c32 (nI_pos (by decide))) (fun c32 => ?_)
  refine J_iload_n (i := 3) (pc := 35) dX2_node_35 rfl rfl ?_
  refine J_bipush (v := nI (6)) (pc := 36) dX2_node_36 rfl ?_
  refine J_icmp_leN (tgt := 51) (pc := 38) dX2_node_38 (by decide) (by omega) (by omega) (fun c38 => ?_) (fun c38 => by exfalso; first | omega | simp_all)
  refine J_aload_n (i := 0) (pc := 51) dX2_node_51 rfl rfl ?_
  refine J_getf (k := 1) (pc := 52) dX2_node_52 flX2_18 g4 rfl ?_
  refine J_iload_n (i := 1) (pc := 55) dX2_node_55 rfl rfl ?_
  refine J_aald (j := j) (b := π j) (pc := 56) dX2_node_56 (by decide) g5 rfl (by omega) (by omega) (g5b j hj5) ?_
  refine J_astore (i := 4) (lv' := [(4, .ref (π j)), (0, .ref (1)), (1, .int (nI (j))), (2, .int (nI (p))), (3, .int (nI (5)))]) (pc := 57) dX2_node_57 (by decide) rfl ?_
  refine J_iload_n (i := 3) (pc := 59) dX2_node_59 rfl rfl ?_
  refine J_tableIn (off := 75) (tgt := 135) (pc := 60) dX2_node_60 (by decide) (by decide) (by decide +kernel) (by decide) ?_
  refine J_aload (i := 4) (pc := 135) dX2_node_135 rfl ?_
  refine J_iload_n (i := 2) (pc := 137) dX2_node_137 rfl rfl ?_
  refine J_cVi (st := []) (As := [.int (nI (p))]) (pc := 138) dX2_node_138 okX1_lowPartAt q2_59 q2_60 q2_61 (rfl : vwCl[1]? = some _) hfs rfl (Nat.le_of_ble_eq_true rfl) (Nat.le_of_ble_eq_true rfl) (c_lowPartAt hT n39 hc31 e1 hp) ?_
  refine J_iret (ty := .int) (pc := 141) dX2_node_141 rfl rfl ?_
  exact ⟨rfl, rfl⟩

set_option maxHeartbeats 2000000 in
set_option maxRecDepth 20000 in
theorem c_node6 {g : GT} {d : Nat} {h : MH} {σ : ST} {π : Nat → Nat} (hG : GP h σ π) {j : Nat} (hj : j < σ.2.1.1) {p : Nat} (hp : p < nN 5 (σ.2.2.1 j)) : J g (d + 2) 0 0 mX2_node 0 (lv_args 0 [.ref 1, .int (nI (j)), .int (nI (p)), .int (nI (6))]) [] h (RI (enc (ndS (σ.2.2.1 j) p 6)) h) := by
  obtain ⟨g1, g2, g3, g4, ⟨tf, g5, g5b⟩, g6, g7, g8⟩ := id hG
  obtain ⟨o1, o2, o3, o4⟩ := id g2
  have hB := g1
  have b9 := BH_2 g1
  obtain ⟨hn, hc9, hm5, hs2⟩ := id g1.1
  have hp9 := pw_le hn
  have hj5 : j < 5 := by omega
  obtain ⟨cf, sf, gf, df, mf, rf, hT, hK⟩ := g8 j hj
  obtain ⟨okj, n39⟩ := o4 j hj
  have n1 := nN_pos 5 (σ.2.2.1 j)
  obtain ⟨p18, p46, fs, hfs⟩ := GP_tr hG hj5
  have hG0 : G4 cf sf gf df p = E4 (rowT 5 0 (σ.2.2.1 j) p) := by
    have r := hK p hp
    rw [Nat.zero_add] at r
    exact r
  have okr := ok_row 5 0 (σ.2.2.1 j) p okj hp
  have e1 : cf p = enc (rowT 5 0 (σ.2.2.1 j) p).1 := congrArg (fun q : Q4 => q.1) hG0
  have hc31 : ∀ n, (rowT 5 0 (σ.2.2.1 j) p).1 = some n → n < 2 ^ 31 := fun n e => by have := okr.1 n e; omega
  refine J_aload_n (i := 0) (pc := 0) dX2_node_0 rfl rfl ?_
  refine J_iload_n (i := 1) (pc := 1) dX2_node_1 rfl rfl ?_
  refine J_cVi (st := []) (As := [.int (nI (j))]) (pc := 2) dX2_node_2 okX2_isTree q1_233 q1_235 qs1_6 (rfl : vwCl[2]? = some _) g4 rfl (Nat.le_of_ble_eq_true rfl) (Nat.le_of_ble_eq_true rfl) (c_isTreeT hG hj) ?_
  refine J_if_eqN (tgt := 21) (pc := 5) dX2_node_5 (by decide) (by omega) (fun c5 => by exfalso; first | omega | simp_all) (fun c5 => ?_)
  refine J_aload_n (i := 0) (pc := 8) dX2_node_8 rfl rfl ?_
  refine J_getf (k := 1) (pc := 9) dX2_node_9 flX2_18 g4 rfl ?_
  refine J_iload_n (i := 1) (pc := 12) dX2_node_12 rfl rfl ?_
  refine J_aald (j := j) (b := π j) (pc := 13) dX2_node_13 (by decide) g5 rfl (by omega) (by omega) (g5b j hj5) ?_
  refine J_iload_n (i := 2) (pc := 14) dX2_node_14 rfl rfl ?_
  refine J_cVi (st := []) (As := [.int (nI (p))]) (pc := 15) dX2_node_15 okX1_hasPlace q2_27 q2_28 q2_29 (rfl : vwCl[1]? = some _) hfs rfl (Nat.le_of_ble_eq_true rfl) (Nat.le_of_ble_eq_true rfl) (c_hasPlaceT hT n39 hp) ?_
  refine J_if_neN (tgt := 31) (pc := 18) dX2_node_18 (by decide) (by omega) (fun c18 => ?_) (fun c18 => by exfalso; first | omega | simp_all)
  refine J_iload_n (i := 3) (pc := 31) dX2_node_31 rfl rfl ?_
  refine J_if_lt (tgt := 41) (pc := 32) dX2_node_32 (by decide) (fun c32 => absurd c32 (nI_pos (by decide))) (fun c32 => ?_)
  refine J_iload_n (i := 3) (pc := 35) dX2_node_35 rfl rfl ?_
  refine J_bipush (v := nI (6)) (pc := 36) dX2_node_36 rfl ?_
  refine J_icmp_leN (tgt := 51) (pc := 38) dX2_node_38 (by decide) (by omega) (by omega) (fun c38 => ?_) (fun c38 => by exfalso; first | omega | simp_all)
  refine J_aload_n (i := 0) (pc := 51) dX2_node_51 rfl rfl ?_
  refine J_getf (k := 1) (pc := 52) dX2_node_52 flX2_18 g4 rfl ?_
  refine J_iload_n (i := 1) (pc := 55) dX2_node_55 rfl rfl ?_
  refine J_aald (j := j) (b := π j) (pc := 56) dX2_node_56 (by decide) g5 rfl (by omega) (by omega) (g5b j hj5) ?_
  refine J_astore (i := 4) (lv' := [(4, .ref (π j)), (0, .ref (1)), (1, .int (nI (j))), (2, .int (nI (p))), (3, .int (nI (6)))]) (pc := 57) dX2_node_57 (by decide) rfl ?_
  refine J_iload_n (i := 3) (pc := 59) dX2_node_59 rfl rfl ?_
  refine J_tableOut (tgt := 142) (pc := 60) dX2_node_60 (by decide) (by decide) ?_
  refine J_aload (i := 4) (pc := 142) dX2_node_142 rfl ?_
  refine J_iload_n (i := 2) (pc := 144) dX2_node_144 rfl rfl ?_
  refine J_cVi (st := []) (As := [.int (nI (p))]) (pc := 145) dX2_node_145 okX1_highPartAt q2_63 q2_15 q2_16 (rfl : vwCl[1]? = some _) hfs rfl (Nat.le_of_ble_eq_true rfl) (Nat.le_of_ble_eq_true rfl) ((by have r := c_highAt (g := g) (dd := d + 1) hT n39 5 0 (σ.2.2.1 j) 0 p hK okj (by omega) (by omega) hp; rw [Nat.zero_add] at r; exact r)) ?_
  refine J_iret (ty := .int) (pc := 148) dX2_node_148 rfl rfl ?_
  exact ⟨congrArg (fun z : Int32 => (Sum.inl (some (Value.int z)) : RT)) (by show enc _ = enc (hiT 5 _ p); congr 1; cases hiT 5 (σ.2.2.1 j) p with | none => rfl | some z => exact congrArg some (Nat.zero_add z)), rfl⟩

set_option maxHeartbeats 2000000 in
set_option maxRecDepth 20000 in
theorem c_told0 {g : GT} {d : Nat} {h : MH} {σ : ST} {π : Nat → Nat} (hG : GP h σ π) {k : Nat} (hk : k < σ.1.1) : J g (d + 2) 0 0 mX2_told 0 (lv_args 0 [.ref 1, .int (nI (k)), .int (nI (0))]) [] h (RI (nI (toS σ k 0)) h) := by
  obtain ⟨g1, g2, g3, g4, ⟨tf, g5, g5b⟩, g6, g7, g8⟩ := id hG
  obtain ⟨o1, o2, o3, o4⟩ := id g2
  have hB := g1
  have b9 := BH_2 g1
  obtain ⟨hn, hc9, hm5, hs2⟩ := id g1.1
  have hp9 := pw_le hn

  refine J_aload_n (i := 0) (pc := 0) dX2_told_0 rfl rfl ?_
  refine J_iload_n (i := 1) (pc := 1) dX2_told_1 rfl rfl ?_
  refine J_cVi (st := []) (As := [.int (nI (k))]) (pc := 2) dX2_told_2 okX2_isBean q1_16 q1_18 qs1_0 (rfl : vwCl[2]? = some _) g4 rfl (Nat.le_of_ble_eq_true rfl) (Nat.le_of_ble_eq_true rfl) (c_isBeanT hG hk) ?_
  refine J_if_neN (tgt := 18) (pc := 5) dX2_told_5 (by decide) (by omega) (fun c5 => ?_) (fun c5 => by exfalso; first | omega | simp_all)
  refine J_iload_n (i := 2) (pc := 18) dX2_told_18 rfl rfl ?_
  refine J_if_lt (tgt := 27) (pc := 19) dX2_told_19 (by decide) (fun c19 => absurd c19 (nI_pos (by decide))) (fun c19 => ?_)
  refine J_iload_n (i := 2) (pc := 22) dX2_told_22 rfl rfl ?_
  refine J_iconst (v := nI (4)) (pc := 23) dX2_told_23 rfl ?_
  refine J_icmp_leN (tgt := 37) (pc := 24) dX2_told_24 (by decide) (by omega) (by omega) (fun c24 => ?_) (fun c24 => by exfalso; first | omega | simp_all)
  refine J_iload_n (i := 2) (pc := 37) dX2_told_37 rfl rfl ?_
  refine J_iconst (v := nI (3)) (pc := 38) dX2_told_38 rfl ?_
  refine J_icmp_geN (tgt := 52) (pc := 39) dX2_told_39 (by decide) (by omega) (by omega) (fun c39 => by exfalso; first | omega | simp_all) (fun c39 => ?_)
  refine J_aload_n (i := 0) (pc := 42) dX2_told_42 rfl rfl ?_
  refine J_getf (k := 0) (pc := 43) dX2_told_43 flX2_12 g4 rfl ?_
  refine J_iload_n (i := 1) (pc := 46) dX2_told_46 rfl rfl ?_
  refine J_iload_n (i := 2) (pc := 47) dX2_told_47 rfl rfl ?_
  refine J_cVi (st := []) (As := [.int (nI (k)), .int (nI (0))]) (pc := 48) dX2_told_48 okX0_measureOf q2_101 q2_102 q2_103 (rfl : vwCl[0]? = some _) b9 rfl (Nat.le_of_ble_eq_true rfl) (Nat.le_of_ble_eq_true rfl) (c_measureOf hB hk (by omega)) ?_
  refine J_iret (ty := .int) (pc := 51) dX2_told_51 rfl rfl ?_
  exact ⟨rfl, rfl⟩

set_option maxHeartbeats 2000000 in
set_option maxRecDepth 20000 in
theorem c_told1 {g : GT} {d : Nat} {h : MH} {σ : ST} {π : Nat → Nat} (hG : GP h σ π) {k : Nat} (hk : k < σ.1.1) : J g (d + 2) 0 0 mX2_told 0 (lv_args 0 [.ref 1, .int (nI (k)), .int (nI (1))]) [] h (RI (nI (toS σ k 1)) h) := by
  obtain ⟨g1, g2, g3, g4, ⟨tf, g5, g5b⟩, g6, g7, g8⟩ := id hG
  obtain ⟨o1, o2, o3, o4⟩ := id g2
  have hB := g1
  have b9 := BH_2 g1
  obtain ⟨hn, hc9, hm5, hs2⟩ := id g1.1
  have hp9 := pw_le hn

  refine J_aload_n (i := 0) (pc := 0) dX2_told_0 rfl rfl ?_
  refine J_iload_n (i := 1) (pc := 1) dX2_told_1 rfl rfl ?_
  refine J_cVi (st := []) (As := [.int (nI (k))]) (pc := 2) dX2_told_2 okX2_isBean q1_16 q1_18 qs1_0 (rfl : vwCl[2]? = some _) g4 rfl (Nat.le_of_ble_eq_true rfl) (Nat.le_of_ble_eq_true rfl) (c_isBeanT hG hk) ?_
  refine J_if_neN (tgt := 18) (pc := 5) dX2_told_5 (by decide) (by omega) (fun c5 => ?_) (fun c5 => by exfalso; first | omega | simp_all)
  refine J_iload_n (i := 2) (pc := 18) dX2_told_18 rfl rfl ?_
  refine J_if_lt (tgt := 27) (pc := 19) dX2_told_19 (by decide) (fun c19 => absurd c19 (nI_pos (by decide))) (fun c19 => ?_)
  refine J_iload_n (i := 2) (pc := 22) dX2_told_22 rfl rfl ?_
  refine J_iconst (v := nI (4)) (pc := 23) dX2_told_23 rfl ?_
  refine J_icmp_leN (tgt := 37) (pc := 24) dX2_told_24 (by decide) (by omega) (by omega) (fun c24 => ?_) (fun c24 => by exfalso; first | omega | simp_all)
  refine J_iload_n (i := 2) (pc := 37) dX2_told_37 rfl rfl ?_
  refine J_iconst (v := nI (3)) (pc := 38) dX2_told_38 rfl ?_
  refine J_icmp_geN (tgt := 52) (pc := 39) dX2_told_39 (by decide) (by omega) (by omega) (fun c39 => by exfalso; first | omega | simp_all) (fun c39 => ?_)
  refine J_aload_n (i := 0) (pc := 42) dX2_told_42 rfl rfl ?_
  refine J_getf (k := 0) (pc := 43) dX2_told_43 flX2_12 g4 rfl ?_
  refine J_iload_n (i := 1) (pc := 46) dX2_told_46 rfl rfl ?_
  refine J_iload_n (i := 2) (pc := 47) dX2_told_47 rfl rfl ?_
  refine J_cVi (st := []) (As := [.int (nI (k)), .int (nI (1))]) (pc := 48) dX2_told_48 okX0_measureOf q2_101 q2_102 q2_103 (rfl : vwCl[0]? = some _) b9 rfl (Nat.le_of_ble_eq_true rfl) (Nat.le_of_ble_eq_true rfl) (c_measureOf hB hk (by omega)) ?_
  refine J_iret (ty := .int) (pc := 51) dX2_told_51 rfl rfl ?_
  exact ⟨rfl, rfl⟩

set_option maxHeartbeats 2000000 in
set_option maxRecDepth 20000 in
theorem c_told2 {g : GT} {d : Nat} {h : MH} {σ : ST} {π : Nat → Nat} (hG : GP h σ π) {k : Nat} (hk : k < σ.1.1) : J g (d + 2) 0 0 mX2_told 0 (lv_args 0 [.ref 1, .int (nI (k)), .int (nI (2))]) [] h (RI (nI (toS σ k 2)) h) := by
  obtain ⟨g1, g2, g3, g4, ⟨tf, g5, g5b⟩, g6, g7, g8⟩ := id hG
  obtain ⟨o1, o2, o3, o4⟩ := id g2
  have hB := g1
  have b9 := BH_2 g1
  obtain ⟨hn, hc9, hm5, hs2⟩ := id g1.1
  have hp9 := pw_le hn

  refine J_aload_n (i := 0) (pc := 0) dX2_told_0 rfl rfl ?_
  refine J_iload_n (i := 1) (pc := 1) dX2_told_1 rfl rfl ?_
  refine J_cVi (st := []) (As := [.int (nI (k))]) (pc := 2) dX2_told_2 okX2_isBean q1_16 q1_18 qs1_0 (rfl : vwCl[2]? = some _) g4 rfl (Nat.le_of_ble_eq_true rfl) (Nat.le_of_ble_eq_true rfl) (c_isBeanT hG hk) ?_
  refine J_if_neN (tgt := 18) (pc := 5) dX2_told_5 (by decide) (by omega) (fun c5 => ?_) (fun c5 => by exfalso; first | omega | simp_all)
  refine J_iload_n (i := 2) (pc := 18) dX2_told_18 rfl rfl ?_
  refine J_if_lt (tgt := 27) (pc := 19) dX2_told_19 (by decide) (fun c19 => absurd c19 (nI_pos (by decide))) (fun c19 => ?_)
  refine J_iload_n (i := 2) (pc := 22) dX2_told_22 rfl rfl ?_
  refine J_iconst (v := nI (4)) (pc := 23) dX2_told_23 rfl ?_
  refine J_icmp_leN (tgt := 37) (pc := 24) dX2_told_24 (by decide) (by omega) (by omega) (fun c24 => ?_) (fun c24 => by exfalso; first | omega | simp_all)
  refine J_iload_n (i := 2) (pc := 37) dX2_told_37 rfl rfl ?_
  refine J_iconst (v := nI (3)) (pc := 38) dX2_told_38 rfl ?_
  refine J_icmp_geN (tgt := 52) (pc := 39) dX2_told_39 (by decide) (by omega) (by omega) (fun c39 => by exfalso; first | omega | simp_all) (fun c39 => ?_)
  refine J_aload_n (i := 0) (pc := 42) dX2_told_42 rfl rfl ?_
  refine J_getf (k := 0) (pc := 43) dX2_told_43 flX2_12 g4 rfl ?_
  refine J_iload_n (i := 1) (pc := 46) dX2_told_46 rfl rfl ?_
  refine J_iload_n (i := 2) (pc := 47) dX2_told_47 rfl rfl ?_
  refine J_cVi (st := []) (As := [.int (nI (k)), .int (nI (2))]) (pc := 48) dX2_told_48 okX0_measureOf q2_101 q2_102 q2_103 (rfl : vwCl[0]? = some _) b9 rfl (Nat.le_of_ble_eq_true rfl) (Nat.le_of_ble_eq_true rfl) (c_measureOf hB hk (by omega)) ?_
  refine J_iret (ty := .int) (pc := 51) dX2_told_51 rfl rfl ?_
  exact ⟨rfl, rfl⟩

set_option maxHeartbeats 2000000 in
set_option maxRecDepth 20000 in
theorem c_told3 {g : GT} {d : Nat} {h : MH} {σ : ST} {π : Nat → Nat} (hG : GP h σ π) {k : Nat} (hk : k < σ.1.1) : J g (d + 2) 0 0 mX2_told 0 (lv_args 0 [.ref 1, .int (nI (k)), .int (nI (3))]) [] h (RI (nI (toS σ k 3)) h) := by
  obtain ⟨g1, g2, g3, g4, ⟨tf, g5, g5b⟩, g6, g7, g8⟩ := id hG
  obtain ⟨o1, o2, o3, o4⟩ := id g2
  have hB := g1
  have b9 := BH_2 g1
  obtain ⟨hn, hc9, hm5, hs2⟩ := id g1.1
  have hp9 := pw_le hn

  refine J_aload_n (i := 0) (pc := 0) dX2_told_0 rfl rfl ?_
  refine J_iload_n (i := 1) (pc := 1) dX2_told_1 rfl rfl ?_
  refine J_cVi (st := []) (As := [.int (nI (k))]) (pc := 2) dX2_told_2 okX2_isBean q1_16 q1_18 qs1_0 (rfl : vwCl[2]? = some _) g4 rfl (Nat.le_of_ble_eq_true rfl) (Nat.le_of_ble_eq_true rfl) (c_isBeanT hG hk) ?_
  refine J_if_neN (tgt := 18) (pc := 5) dX2_told_5 (by decide) (by omega) (fun c5 => ?_) (fun c5 => by exfalso; first | omega | simp_all)
  refine J_iload_n (i := 2) (pc := 18) dX2_told_18 rfl rfl ?_
  refine J_if_lt (tgt := 27) (pc := 19) dX2_told_19 (by decide) (fun c19 => absurd c19 (nI_pos (by decide))) (fun c19 => ?_)
  refine J_iload_n (i := 2) (pc := 22) dX2_told_22 rfl rfl ?_
  refine J_iconst (v := nI (4)) (pc := 23) dX2_told_23 rfl ?_
  refine J_icmp_leN (tgt := 37) (pc := 24) dX2_told_24 (by decide) (by omega) (by omega) (fun c24 => ?_) (fun c24 => by exfalso; first | omega | simp_all)
  refine J_iload_n (i := 2) (pc := 37) dX2_told_37 rfl rfl ?_
  refine J_iconst (v := nI (3)) (pc := 38) dX2_told_38 rfl ?_
  refine J_icmp_geN (tgt := 52) (pc := 39) dX2_told_39 (by decide) (by omega) (by omega) (fun c39 => ?_) (fun c39 => by exfalso; first | omega | simp_all)
  refine J_iload_n (i := 2) (pc := 52) dX2_told_52 rfl rfl ?_
  refine J_iconst (v := nI (3)) (pc := 53) dX2_told_53 rfl ?_
  refine J_icmp_neN (tgt := 66) (pc := 54) dX2_told_54 (by decide) (by omega) (by omega) (fun c54 => by exfalso; first | omega | simp_all) (fun c54 => ?_)
  refine J_aload_n (i := 0) (pc := 57) dX2_told_57 rfl rfl ?_
  refine J_getf (k := 0) (pc := 58) dX2_told_58 flX2_12 g4 rfl ?_
  refine J_iload_n (i := 1) (pc := 61) dX2_told_61 rfl rfl ?_
  refine J_cVi (st := []) (As := [.int (nI (k))]) (pc := 62) dX2_told_62 okX0_sortOf q2_105 q2_106 q2_107 (rfl : vwCl[0]? = some _) b9 rfl (Nat.le_of_ble_eq_true rfl) (Nat.le_of_ble_eq_true rfl) (c_sortOf hB hk) ?_
  refine J_iret (ty := .int) (pc := 65) dX2_told_65 rfl rfl ?_
  exact ⟨rfl, rfl⟩

set_option maxHeartbeats 2000000 in
set_option maxRecDepth 20000 in
theorem c_told4 {g : GT} {d : Nat} {h : MH} {σ : ST} {π : Nat → Nat} (hG : GP h σ π) {k : Nat} (hk : k < σ.1.1) : J g (d + 2) 0 0 mX2_told 0 (lv_args 0 [.ref 1, .int (nI (k)), .int (nI (4))]) [] h (RI (nI (toS σ k 4)) h) := by
  obtain ⟨g1, g2, g3, g4, ⟨tf, g5, g5b⟩, g6, g7, g8⟩ := id hG
  obtain ⟨o1, o2, o3, o4⟩ := id g2
  have hB := g1
  have b9 := BH_2 g1
  obtain ⟨hn, hc9, hm5, hs2⟩ := id g1.1
  have hp9 := pw_le hn

  refine J_aload_n (i := 0) (pc := 0) dX2_told_0 rfl rfl ?_
  refine J_iload_n (i := 1) (pc := 1) dX2_told_1 rfl rfl ?_
  refine J_cVi (st := []) (As := [.int (nI (k))]) (pc := 2) dX2_told_2 okX2_isBean q1_16 q1_18 qs1_0 (rfl : vwCl[2]? = some _) g4 rfl (Nat.le_of_ble_eq_true rfl) (Nat.le_of_ble_eq_true rfl) (c_isBeanT hG hk) ?_
  refine J_if_neN (tgt := 18) (pc := 5) dX2_told_5 (by decide) (by omega) (fun c5 => ?_) (fun c5 => by exfalso; first | omega | simp_all)
  refine J_iload_n (i := 2) (pc := 18) dX2_told_18 rfl rfl ?_
  refine J_if_lt (tgt := 27) (pc := 19) dX2_told_19 (by decide) (fun c19 => absurd c19 (nI_pos (by decide))) (fun c19 => ?_)
  refine J_iload_n (i := 2) (pc := 22) dX2_told_22 rfl rfl ?_
  refine J_iconst (v := nI (4)) (pc := 23) dX2_told_23 rfl ?_
  refine J_icmp_leN (tgt := 37) (pc := 24) dX2_told_24 (by decide) (by omega) (by omega) (fun c24 => ?_) (fun c24 => by exfalso; first | omega | simp_all)
  refine J_iload_n (i := 2) (pc := 37) dX2_told_37 rfl rfl ?_
  refine J_iconst (v := nI (3)) (pc := 38) dX2_told_38 rfl ?_
  refine J_icmp_geN (tgt := 52) (pc := 39) dX2_told_39 (by decide) (by omega) (by omega) (fun c39 => ?_) (fun c39 => by exfalso; first | omega | simp_all)
  refine J_iload_n (i := 2) (pc := 52) dX2_told_52 rfl rfl ?_
  refine J_iconst (v := nI (3)) (pc := 53) dX2_told_53 rfl ?_
  refine J_icmp_neN (tgt := 66) (pc := 54) dX2_told_54 (by decide) (by omega) (by omega) (fun c54 => ?_) (fun c54 => by exfalso; first | omega | simp_all)
  refine J_aload_n (i := 0) (pc := 66) dX2_told_66 rfl rfl ?_
  refine J_getf (k := 0) (pc := 67) dX2_told_67 flX2_12 g4 rfl ?_
  refine J_iload_n (i := 1) (pc := 70) dX2_told_70 rfl rfl ?_
  refine J_cVi (st := []) (As := [.int (nI (k))]) (pc := 71) dX2_told_71 okX0_isCheck q1_95 q1_96 q1_97 (rfl : vwCl[0]? = some _) b9 rfl (Nat.le_of_ble_eq_true rfl) (Nat.le_of_ble_eq_true rfl) (c_isCheck hB hk) ?_
  refine J_if_eqB (tgt := 81) (pc := 74) dX2_told_74 (by decide) (fun c74 => ?_) (fun c74 => ?_)
  · skip
    refine J_iconst (v := nI (0)) (pc := 81) dX2_told_81 rfl ?_
    refine J_iret (ty := .int) (pc := 82) dX2_told_82 rfl rfl ?_
    exact ⟨congrArg (fun z : Int32 => (Sum.inl (some (Value.int z)) : RT)) (by first | exact (congrArg nI (toS4f c74)).symm | exact (congrArg nI (toS4t c74)).symm), rfl⟩
  · skip
    refine J_iconst (v := nI (1)) (pc := 77) dX2_told_77 rfl ?_
    refine J_goto (tgt := 82) (pc := 78) dX2_told_78 (by decide) ?_
    refine J_iret (ty := .int) (pc := 82) dX2_told_82 rfl rfl ?_
    exact ⟨congrArg (fun z : Int32 => (Sum.inl (some (Value.int z)) : RT)) (by first | exact (congrArg nI (toS4f c74)).symm | exact (congrArg nI (toS4t c74)).symm), rfl⟩
