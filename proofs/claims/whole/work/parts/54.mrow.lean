-- the reference: what is read of a row
theorem RW_0 {f : Nat → Int32} {s : Nat} {t : TR 0} (h : RW f 0 s t) : f (5 * s) = nI 1 := h.1
theorem RW_l {f : Nat → Int32} {d s st mn : Nat} (h : RW f (d + 1) s ((st, mn), none)) : f (5 * s) = nI 1 := h.1
theorem sp64 {d s : Nat} (h : (s + 1) * 2 ^ d ≤ 64) : s < 64 := by
  have hpw := Nat.one_le_two_pow (n := d)
  have hsp : s + 1 ≤ (s + 1) * 2 ^ d := Nat.le_mul_of_pos_right _ (by omega)
  omega
theorem sp2 {d s : Nat} (h : (s + 1) * 2 ^ (d + 1) ≤ 64) : s < 32 ∧ (2 * s + 1) * 2 ^ d ≤ 64 ∧ (2 * s + 1 + 1) * 2 ^ d ≤ 64 := by
  have hpow : (s + 1) * 2 ^ (d + 1) = 2 * ((s + 1) * 2 ^ d) := by rw [Nat.pow_succ]; grind
  have hpw := Nat.one_le_two_pow (n := d)
  have hsp : s + 1 ≤ (s + 1) * 2 ^ d := Nat.le_mul_of_pos_right _ (by omega)
  have e1 : (2 * s + 1 + 1) * 2 ^ d = 2 * ((s + 1) * 2 ^ d) := by grind
  have e2 : (2 * s + 1) * 2 ^ d ≤ (2 * s + 1 + 1) * 2 ^ d := Nat.mul_le_mul_right _ (by omega)
  omega

set_option maxHeartbeats 2000000 in
set_option maxRecDepth 20000 in
theorem m_isForkT {g : GT} {d : Nat} {h : MH} {A : Nat} {f : Nat → Int32} (hA : h.2 A = some (aI 320 f)) {s : Nat} (hs : s < 64) (hf : f (5 * s) = nI 2) : J g d 0 0 mX3_isFork 0 (lv_args 0 [.ref A, .int (nI s)]) [] h (RI (nI 1) h) := by
  refine J_aload_n (i := 0) (pc := 0) dX3_isFork_0 rfl rfl ?_
  refine J_iconst (v := nI (5)) (pc := 1) dX3_isFork_1 rfl ?_
  refine J_iload_n (i := 1) (pc := 2) dX3_isFork_2 rfl rfl ?_
  refine J_imulN (pc := 3) dX3_isFork_3 ?_
  refine J_iald (j := (5) * (s)) (pc := 4) dX3_isFork_4 hA rfl (by omega) (by omega) ?_
  rw [show f ((5) * (s)) = nI (2) from hf]
  refine J_iconst (v := nI (2)) (pc := 5) dX3_isFork_5 rfl ?_
  refine J_icmp_neN (tgt := 13) (pc := 6) dX3_isFork_6 (by decide) (by omega) (by omega) (fun c6 => by exfalso; first | omega | simp_all) (fun c6 => ?_)
  refine J_iconst (v := nI (1)) (pc := 9) dX3_isFork_9 rfl ?_
  refine J_goto (tgt := 14) (pc := 10) dX3_isFork_10 (by decide) ?_
  refine J_iret (ty := .boolean) (pc := 14) dX3_isFork_14 rfl rfl ?_
  exact ⟨rfl, rfl⟩
theorem m_isForkF {g : GT} {d : Nat} {h : MH} {A : Nat} {f : Nat → Int32} (hA : h.2 A = some (aI 320 f)) {s : Nat} (hs : s < 64) (hf : f (5 * s) = nI 1) : J g d 0 0 mX3_isFork 0 (lv_args 0 [.ref A, .int (nI s)]) [] h (RI (nI 0) h) := by
  refine J_aload_n (i := 0) (pc := 0) dX3_isFork_0 rfl rfl ?_
  refine J_iconst (v := nI (5)) (pc := 1) dX3_isFork_1 rfl ?_
  refine J_iload_n (i := 1) (pc := 2) dX3_isFork_2 rfl rfl ?_
  refine J_imulN (pc := 3) dX3_isFork_3 ?_
  refine J_iald (j := (5) * (s)) (pc := 4) dX3_isFork_4 hA rfl (by omega) (by omega) ?_
  rw [show f ((5) * (s)) = nI (1) from hf]
  refine J_iconst (v := nI (2)) (pc := 5) dX3_isFork_5 rfl ?_
  refine J_icmp_neN (tgt := 13) (pc := 6) dX3_isFork_6 (by decide) (by omega) (by omega) (fun c6 => ?_) (fun c6 => by exfalso; first | omega | simp_all)
  refine J_iconst (v := nI (0)) (pc := 13) dX3_isFork_13 rfl ?_
  refine J_iret (ty := .boolean) (pc := 14) dX3_isFork_14 rfl rfl ?_
  exact ⟨rfl, rfl⟩

set_option maxHeartbeats 2000000 in
set_option maxRecDepth 20000 in
theorem m_nodes {g : GT} {dd : Nat} {h : MH} {A : Nat} {f : Nat → Int32} (hA : h.2 A = some (aI 320 f)) : ∀ (d s : Nat) (t : TR d), RW f d s t → (s + 1) * 2 ^ d ≤ 64 → d ≤ 5 → J g (dd + d + 1) 0 0 mX3_nodes 0 (lv_args 0 [.ref A, .int (nI s)]) [] h (RI (nI (nN d t)) h) := by
  intro d
  induction d with
  | zero =>
    intro s t hr hs hd
    have hs64 := sp64 hs
    refine J_aload_n (i := 0) (pc := 0) dX3_nodes_0 rfl rfl ?_
    refine J_iload_n (i := 1) (pc := 1) dX3_nodes_1 rfl rfl ?_
    refine J_cSi (st := []) (As := [.ref (A), .int (nI (s))]) (pc := 2) dX3_nodes_2 okX3_isFork q4_20 q4_21 rfl (Nat.le_of_ble_eq_true rfl) (Nat.le_of_ble_eq_true rfl) (m_isForkF hA (by omega) (RW_0 hr)) ?_
    refine J_if_eqN (tgt := 30) (pc := 5) dX3_nodes_5 (by decide) (by omega) (fun c5 => ?_) (fun c5 => by exfalso; first | omega | simp_all)
    refine J_iconst (v := nI (1)) (pc := 30) dX3_nodes_30 rfl ?_
    refine J_iret (ty := .int) (pc := 31) dX3_nodes_31 rfl rfl ?_
    exact ⟨rfl, rfl⟩
  | succ d ih =>
    intro s t hr hs hd
    have hd1 : d ≤ 5 := by omega
    obtain ⟨hs64, p1, p2⟩ := sp2 hs
    show J g (dd + d + 1 + 1) 0 0 mX3_nodes 0 _ [] h _
    rcases TR_c t with ⟨st, mn, rfl⟩ | ⟨st, mn, c, l, r, rfl⟩
    · skip
      refine J_aload_n (i := 0) (pc := 0) dX3_nodes_0 rfl rfl ?_
      refine J_iload_n (i := 1) (pc := 1) dX3_nodes_1 rfl rfl ?_
      refine J_cSi (st := []) (As := [.ref (A), .int (nI (s))]) (pc := 2) dX3_nodes_2 okX3_isFork q4_20 q4_21 rfl (Nat.le_of_ble_eq_true rfl) (Nat.le_of_ble_eq_true rfl) (m_isForkF hA (by omega) (RW_l hr)) ?_
      refine J_if_eqN (tgt := 30) (pc := 5) dX3_nodes_5 (by decide) (by omega) (fun c5 => ?_) (fun c5 => by exfalso; first | omega | simp_all)
      refine J_iconst (v := nI (1)) (pc := 30) dX3_nodes_30 rfl ?_
      refine J_iret (ty := .int) (pc := 31) dX3_nodes_31 rfl rfl ?_
      exact ⟨rfl, rfl⟩
    · skip

      refine J_aload_n (i := 0) (pc := 0) dX3_nodes_0 rfl rfl ?_
      refine J_iload_n (i := 1) (pc := 1) dX3_nodes_1 rfl rfl ?_
      refine J_cSi (st := []) (As := [.ref (A), .int (nI (s))]) (pc := 2) dX3_nodes_2 okX3_isFork q4_20 q4_21 rfl (Nat.le_of_ble_eq_true rfl) (Nat.le_of_ble_eq_true rfl) (m_isForkT hA (by omega) hr.1.1) ?_
      refine J_if_eqN (tgt := 30) (pc := 5) dX3_nodes_5 (by decide) (by omega) (fun c5 => by exfalso; first | omega | simp_all) (fun c5 => ?_)
      refine J_iconst (v := nI (1)) (pc := 8) dX3_nodes_8 rfl ?_
      refine J_aload_n (i := 0) (pc := 9) dX3_nodes_9 rfl rfl ?_
      refine J_iconst (v := nI (2)) (pc := 10) dX3_nodes_10 rfl ?_
      refine J_iload_n (i := 1) (pc := 11) dX3_nodes_11 rfl rfl ?_
      refine J_imulN (pc := 12) dX3_nodes_12 ?_
      refine J_cSi (st := [.int (nI (1))]) (As := [.ref (A), .int (nI ((2) * (s)))]) (pc := 13) dX3_nodes_13 okX3_nodes q4_38 q4_39 rfl (Nat.le_of_ble_eq_true rfl) (Nat.le_of_ble_eq_true rfl) (ih (2 * s) l hr.2.1 p1 hd1) ?_
      refine J_iaddN (pc := 16) dX3_nodes_16 ?_
      refine J_aload_n (i := 0) (pc := 17) dX3_nodes_17 rfl rfl ?_
      refine J_iconst (v := nI (2)) (pc := 18) dX3_nodes_18 rfl ?_
      refine J_iload_n (i := 1) (pc := 19) dX3_nodes_19 rfl rfl ?_
      refine J_imulN (pc := 20) dX3_nodes_20 ?_
      refine J_iconst (v := nI (1)) (pc := 21) dX3_nodes_21 rfl ?_
      refine J_iaddN (pc := 22) dX3_nodes_22 ?_
      refine J_cSi (st := [.int (nI (1 + (nN d l)))]) (As := [.ref (A), .int (nI (((2) * (s)) + 1))]) (pc := 23) dX3_nodes_23 okX3_nodes q4_38 q4_39 rfl (Nat.le_of_ble_eq_true rfl) (Nat.le_of_ble_eq_true rfl) (ih (2 * s + 1) r hr.2.2 p2 hd1) ?_
      refine J_iaddN (pc := 26) dX3_nodes_26 ?_
      refine J_goto (tgt := 31) (pc := 27) dX3_nodes_27 (by decide) ?_
      refine J_iret (ty := .int) (pc := 31) dX3_nodes_31 rfl rfl ?_
      exact ⟨rfl, rfl⟩

set_option maxHeartbeats 2000000 in
set_option maxRecDepth 20000 in
theorem m_leaves {g : GT} {dd : Nat} {h : MH} {A : Nat} {f : Nat → Int32} (hA : h.2 A = some (aI 320 f)) : ∀ (d s : Nat) (t : TR d), RW f d s t → (s + 1) * 2 ^ d ≤ 64 → d ≤ 5 → J g (dd + d + 1) 0 0 mX3_leaves 0 (lv_args 0 [.ref A, .int (nI s)]) [] h (RI (nI (lvT d t)) h) := by
  intro d
  induction d with
  | zero =>
    intro s t hr hs hd
    have hs64 := sp64 hs
    refine J_aload_n (i := 0) (pc := 0) dX3_leaves_0 rfl rfl ?_
    refine J_iload_n (i := 1) (pc := 1) dX3_leaves_1 rfl rfl ?_
    refine J_cSi (st := []) (As := [.ref (A), .int (nI (s))]) (pc := 2) dX3_leaves_2 okX3_isFork q4_20 q4_21 rfl (Nat.le_of_ble_eq_true rfl) (Nat.le_of_ble_eq_true rfl) (m_isForkF hA (by omega) (RW_0 hr)) ?_
    refine J_if_eqN (tgt := 28) (pc := 5) dX3_leaves_5 (by decide) (by omega) (fun c5 => ?_) (fun c5 => by exfalso; first | omega | simp_all)
    refine J_iconst (v := nI (1)) (pc := 28) dX3_leaves_28 rfl ?_
    refine J_iret (ty := .int) (pc := 29) dX3_leaves_29 rfl rfl ?_
    exact ⟨rfl, rfl⟩
  | succ d ih =>
    intro s t hr hs hd
    have hd1 : d ≤ 5 := by omega
    obtain ⟨hs64, p1, p2⟩ := sp2 hs
    show J g (dd + d + 1 + 1) 0 0 mX3_leaves 0 _ [] h _
    rcases TR_c t with ⟨st, mn, rfl⟩ | ⟨st, mn, c, l, r, rfl⟩
    · skip
      refine J_aload_n (i := 0) (pc := 0) dX3_leaves_0 rfl rfl ?_
      refine J_iload_n (i := 1) (pc := 1) dX3_leaves_1 rfl rfl ?_
      refine J_cSi (st := []) (As := [.ref (A), .int (nI (s))]) (pc := 2) dX3_leaves_2 okX3_isFork q4_20 q4_21 rfl (Nat.le_of_ble_eq_true rfl) (Nat.le_of_ble_eq_true rfl) (m_isForkF hA (by omega) (RW_l hr)) ?_
      refine J_if_eqN (tgt := 28) (pc := 5) dX3_leaves_5 (by decide) (by omega) (fun c5 => ?_) (fun c5 => by exfalso; first | omega | simp_all)
      refine J_iconst (v := nI (1)) (pc := 28) dX3_leaves_28 rfl ?_
      refine J_iret (ty := .int) (pc := 29) dX3_leaves_29 rfl rfl ?_
      exact ⟨rfl, rfl⟩
    · skip

      refine J_aload_n (i := 0) (pc := 0) dX3_leaves_0 rfl rfl ?_
      refine J_iload_n (i := 1) (pc := 1) dX3_leaves_1 rfl rfl ?_
      refine J_cSi (st := []) (As := [.ref (A), .int (nI (s))]) (pc := 2) dX3_leaves_2 okX3_isFork q4_20 q4_21 rfl (Nat.le_of_ble_eq_true rfl) (Nat.le_of_ble_eq_true rfl) (m_isForkT hA (by omega) hr.1.1) ?_
      refine J_if_eqN (tgt := 28) (pc := 5) dX3_leaves_5 (by decide) (by omega) (fun c5 => by exfalso; first | omega | simp_all) (fun c5 => ?_)
      refine J_aload_n (i := 0) (pc := 8) dX3_leaves_8 rfl rfl ?_
      refine J_iconst (v := nI (2)) (pc := 9) dX3_leaves_9 rfl ?_
      refine J_iload_n (i := 1) (pc := 10) dX3_leaves_10 rfl rfl ?_
      refine J_imulN (pc := 11) dX3_leaves_11 ?_
      refine J_cSi (st := []) (As := [.ref (A), .int (nI ((2) * (s)))]) (pc := 12) dX3_leaves_12 okX3_leaves q4_58 q4_59 rfl (Nat.le_of_ble_eq_true rfl) (Nat.le_of_ble_eq_true rfl) (ih (2 * s) l hr.2.1 p1 hd1) ?_
      refine J_aload_n (i := 0) (pc := 15) dX3_leaves_15 rfl rfl ?_
      refine J_iconst (v := nI (2)) (pc := 16) dX3_leaves_16 rfl ?_
      refine J_iload_n (i := 1) (pc := 17) dX3_leaves_17 rfl rfl ?_
      refine J_imulN (pc := 18) dX3_leaves_18 ?_
      refine J_iconst (v := nI (1)) (pc := 19) dX3_leaves_19 rfl ?_
      refine J_iaddN (pc := 20) dX3_leaves_20 ?_
      refine J_cSi (st := [.int (nI (lvT d l))]) (As := [.ref (A), .int (nI (((2) * (s)) + 1))]) (pc := 21) dX3_leaves_21 okX3_leaves q4_58 q4_59 rfl (Nat.le_of_ble_eq_true rfl) (Nat.le_of_ble_eq_true rfl) (ih (2 * s + 1) r hr.2.2 p2 hd1) ?_
      refine J_iaddN (pc := 24) dX3_leaves_24 ?_
      refine J_goto (tgt := 29) (pc := 25) dX3_leaves_25 (by decide) ?_
      refine J_iret (ty := .int) (pc := 29) dX3_leaves_29 rfl rfl ?_
      exact ⟨rfl, rfl⟩

theorem dpT_le : ∀ (d : Nat) (t : TR d), dpT d t ≤ d
  | 0, _ => Nat.le_refl 0
  | d + 1, t => by
    rcases TR_c t with ⟨s, m, rfl⟩ | ⟨s, m, c, l, r, rfl⟩
    · exact Nat.zero_le _
    · have h1 := dpT_le d l
      have h2 := dpT_le d r
      show 1 + max (dpT d l) (dpT d r) ≤ d + 1
      omega

set_option maxHeartbeats 2000000 in
set_option maxRecDepth 20000 in
theorem m_deep {g : GT} {dd : Nat} {h : MH} {A : Nat} {f : Nat → Int32} (hA : h.2 A = some (aI 320 f)) : ∀ (d s : Nat) (t : TR d), RW f d s t → (s + 1) * 2 ^ d ≤ 64 → d ≤ 5 → J g (dd + d + 1) 0 0 mX3_deep 0 (lv_args 0 [.ref A, .int (nI s)]) [] h (RI (nI (dpT d t)) h) := by
  intro d
  induction d with
  | zero =>
    intro s t hr hs hd
    have hs64 := sp64 hs
    refine J_aload_n (i := 0) (pc := 0) dX3_deep_0 rfl rfl ?_
    refine J_iload_n (i := 1) (pc := 1) dX3_deep_1 rfl rfl ?_
    refine J_cSi (st := []) (As := [.ref (A), .int (nI (s))]) (pc := 2) dX3_deep_2 okX3_isFork q4_20 q4_21 rfl (Nat.le_of_ble_eq_true rfl) (Nat.le_of_ble_eq_true rfl) (m_isForkF hA (by omega) (RW_0 hr)) ?_
    refine J_if_eqN (tgt := 32) (pc := 5) dX3_deep_5 (by decide) (by omega) (fun c5 => ?_) (fun c5 => by exfalso; first | omega | simp_all)
    refine J_iconst (v := nI (0)) (pc := 32) dX3_deep_32 rfl ?_
    refine J_iret (ty := .int) (pc := 33) dX3_deep_33 rfl rfl ?_
    exact ⟨rfl, rfl⟩
  | succ d ih =>
    intro s t hr hs hd
    have hd1 : d ≤ 5 := by omega
    obtain ⟨hs64, p1, p2⟩ := sp2 hs
    show J g (dd + d + 1 + 1) 0 0 mX3_deep 0 _ [] h _
    rcases TR_c t with ⟨st, mn, rfl⟩ | ⟨st, mn, c, l, r, rfl⟩
    · skip
      refine J_aload_n (i := 0) (pc := 0) dX3_deep_0 rfl rfl ?_
      refine J_iload_n (i := 1) (pc := 1) dX3_deep_1 rfl rfl ?_
      refine J_cSi (st := []) (As := [.ref (A), .int (nI (s))]) (pc := 2) dX3_deep_2 okX3_isFork q4_20 q4_21 rfl (Nat.le_of_ble_eq_true rfl) (Nat.le_of_ble_eq_true rfl) (m_isForkF hA (by omega) (RW_l hr)) ?_
      refine J_if_eqN (tgt := 32) (pc := 5) dX3_deep_5 (by decide) (by omega) (fun c5 => ?_) (fun c5 => by exfalso; first | omega | simp_all)
      refine J_iconst (v := nI (0)) (pc := 32) dX3_deep_32 rfl ?_
      refine J_iret (ty := .int) (pc := 33) dX3_deep_33 rfl rfl ?_
      exact ⟨rfl, rfl⟩
    · skip
      have x1 := dpT_le d l
      have x2 := dpT_le d r
      refine J_aload_n (i := 0) (pc := 0) dX3_deep_0 rfl rfl ?_
      refine J_iload_n (i := 1) (pc := 1) dX3_deep_1 rfl rfl ?_
      refine J_cSi (st := []) (As := [.ref (A), .int (nI (s))]) (pc := 2) dX3_deep_2 okX3_isFork q4_20 q4_21 rfl (Nat.le_of_ble_eq_true rfl) (Nat.le_of_ble_eq_true rfl) (m_isForkT hA (by omega) hr.1.1) ?_
      refine J_if_eqN (tgt := 32) (pc := 5) dX3_deep_5 (by decide) (by omega) (fun c5 => by exfalso; first | omega | simp_all) (fun c5 => ?_)
      refine J_iconst (v := nI (1)) (pc := 8) dX3_deep_8 rfl ?_
      refine J_aload_n (i := 0) (pc := 9) dX3_deep_9 rfl rfl ?_
      refine J_iconst (v := nI (2)) (pc := 10) dX3_deep_10 rfl ?_
      refine J_iload_n (i := 1) (pc := 11) dX3_deep_11 rfl rfl ?_
      refine J_imulN (pc := 12) dX3_deep_12 ?_
      refine J_cSi (st := [.int (nI (1))]) (As := [.ref (A), .int (nI ((2) * (s)))]) (pc := 13) dX3_deep_13 okX3_deep q4_61 q4_62 rfl (Nat.le_of_ble_eq_true rfl) (Nat.le_of_ble_eq_true rfl) (ih (2 * s) l hr.2.1 p1 hd1) ?_
      refine J_aload_n (i := 0) (pc := 16) dX3_deep_16 rfl rfl ?_
      refine J_iconst (v := nI (2)) (pc := 17) dX3_deep_17 rfl ?_
      refine J_iload_n (i := 1) (pc := 18) dX3_deep_18 rfl rfl ?_
      refine J_imulN (pc := 19) dX3_deep_19 ?_
      refine J_iconst (v := nI (1)) (pc := 20) dX3_deep_20 rfl ?_
      refine J_iaddN (pc := 21) dX3_deep_21 ?_
      refine J_cSi (st := [.int (nI (dpT d l)), .int (nI (1))]) (As := [.ref (A), .int (nI (((2) * (s)) + 1))]) (pc := 22) dX3_deep_22 okX3_deep q4_61 q4_62 rfl (Nat.le_of_ble_eq_true rfl) (Nat.le_of_ble_eq_true rfl) (ih (2 * s + 1) r hr.2.2 p2 hd1) ?_
      refine J_max (pc := 25) dX3_deep_25 q4_64 (Nat.le_of_ble_eq_true rfl) ?_
      rw [show (if nI (dpT d l) < nI (dpT d r) then nI (dpT d r) else nI (dpT d l)) = nI (max (dpT d l) (dpT d r)) from nI_max (by omega) (by omega)]
      refine J_iaddN (pc := 28) dX3_deep_28 ?_
      refine J_goto (tgt := 33) (pc := 29) dX3_deep_29 (by decide) ?_
      refine J_iret (ty := .int) (pc := 33) dX3_deep_33 rfl rfl ?_
      exact ⟨rfl, rfl⟩

def spT : (d : Nat) → Nat → TR d → Nat → Nat
  | 0, s, _, _ => s
  | _ + 1, s, (_, none), _ => s
  | _ + 1, s, (_, some _), 0 => s
  | d + 1, s, (_, some (_, l, r)), q + 1 => if q < nN d l then spT d (2 * s) l q else spT d (2 * s + 1) r (q - nN d l)
theorem nN_le : ∀ (d : Nat) (t : TR d), nN d t + 1 ≤ 2 ^ (d + 1)
  | 0, _ => Nat.le_refl 2
  | d + 1, t => by
    have hp := Nat.one_le_two_pow (n := d)
    have e : 2 ^ (d + 1 + 1) = 2 * 2 ^ (d + 1) := by rw [Nat.pow_succ, Nat.mul_comm]
    have e2 : 2 ^ (d + 1) = 2 * 2 ^ d := by rw [Nat.pow_succ, Nat.mul_comm]
    rcases TR_c t with ⟨s, m, rfl⟩ | ⟨s, m, c, l, r, rfl⟩
    · show 1 + 1 ≤ _
      omega
    · have h1 := nN_le d l
      have h2 := nN_le d r
      rw [nN_f]
      omega
theorem nN_63 {d : Nat} (t : TR d) (hd : d ≤ 5) : nN d t ≤ 63 := by
  have h1 := nN_le d t
  have h2 : 2 ^ (d + 1) ≤ 2 ^ 6 := Nat.pow_le_pow_right (by decide) (by omega)
  omega

set_option maxHeartbeats 2000000 in
set_option maxRecDepth 20000 in
theorem m_spotAt {g : GT} {dd : Nat} {h : MH} {A : Nat} {f : Nat → Int32} (hA : h.2 A = some (aI 320 f)) : ∀ (d s : Nat) (t : TR d) (q : Nat), RW f d s t → (s + 1) * 2 ^ d ≤ 64 → d ≤ 5 → q < nN d t → J g (dd + d + 1) 0 0 mX3_spotAt 0 (lv_args 0 [.ref A, .int (nI s), .int (nI q)]) [] h (RI (nI (spT d s t q)) h) := by
  intro d
  induction d with
  | zero =>
    intro s t q hr hs hd hq
    obtain rfl : q = 0 := by (have hq2 : q < 1 := hq; omega)
    refine J_iload_n (i := 2) (pc := 0) dX3_spotAt_0 rfl rfl ?_
    refine J_if_neN (tgt := 6) (pc := 1) dX3_spotAt_1 (by decide) (by omega) (fun c1 => by exfalso; first | omega | simp_all) (fun c1 => ?_)
    refine J_iload_n (i := 1) (pc := 4) dX3_spotAt_4 rfl rfl ?_
    refine J_iret (ty := .int) (pc := 5) dX3_spotAt_5 rfl rfl ?_
    exact ⟨rfl, rfl⟩
  | succ d ih =>
    intro s t q hr hs hd hq
    have hd1 : d ≤ 5 := by omega
    obtain ⟨hs64, p1, p2⟩ := sp2 hs
    show J g (dd + d + 1 + 1) 0 0 mX3_spotAt 0 _ [] h _
    rcases TR_c t with ⟨st, mn, rfl⟩ | ⟨st, mn, c, l, r, rfl⟩
    · obtain rfl : q = 0 := by (have hq2 : q < 1 := hq; omega)
      refine J_iload_n (i := 2) (pc := 0) dX3_spotAt_0 rfl rfl ?_
      refine J_if_neN (tgt := 6) (pc := 1) dX3_spotAt_1 (by decide) (by omega) (fun c1 => by exfalso; first | omega | simp_all) (fun c1 => ?_)
      refine J_iload_n (i := 1) (pc := 4) dX3_spotAt_4 rfl rfl ?_
      refine J_iret (ty := .int) (pc := 5) dX3_spotAt_5 rfl rfl ?_
      exact ⟨rfl, rfl⟩
    · cases q with
      | zero =>
        refine J_iload_n (i := 2) (pc := 0) dX3_spotAt_0 rfl rfl ?_
        refine J_if_neN (tgt := 6) (pc := 1) dX3_spotAt_1 (by decide) (by omega) (fun c1 => by exfalso; first | omega | simp_all) (fun c1 => ?_)
        refine J_iload_n (i := 1) (pc := 4) dX3_spotAt_4 rfl rfl ?_
        refine J_iret (ty := .int) (pc := 5) dX3_spotAt_5 rfl rfl ?_
        exact ⟨rfl, rfl⟩
      | succ q =>
        have hq2 : q + 1 < 1 + nN d l + nN d r := hq
        have b1 := nN_63 l hd1
        have b2 := nN_63 r hd1
        show J g (dd + d + 1 + 1) 0 0 mX3_spotAt 0 _ [] h (RI (nI (if q < nN d l then spT d (2 * s) l q else spT d (2 * s + 1) r (q - nN d l))) h)
        by_cases hc : q < nN d l
        · rw [if_pos hc]
          refine J_iload_n (i := 2) (pc := 0) dX3_spotAt_0 rfl rfl ?_
          refine J_if_neN (tgt := 6) (pc := 1) dX3_spotAt_1 (by decide) (by omega) (fun c1 => ?_) (fun c1 => by exfalso; first | omega | simp_all)
          refine J_aload_n (i := 0) (pc := 6) dX3_spotAt_6 rfl rfl ?_
          refine J_iconst (v := nI (2)) (pc := 7) dX3_spotAt_7 rfl ?_
          refine J_iload_n (i := 1) (pc := 8) dX3_spotAt_8 rfl rfl ?_
          refine J_imulN (pc := 9) dX3_spotAt_9 ?_
          refine J_cSi (st := []) (As := [.ref (A), .int (nI ((2) * (s)))]) (pc := 10) dX3_spotAt_10 okX3_nodes q4_38 q4_39 rfl (Nat.le_of_ble_eq_true rfl) (Nat.le_of_ble_eq_true rfl) (m_nodes (dd := dd) hA d (2 * s) l hr.2.1 p1 hd1) ?_
          refine J_istore_n (i := 3) (lv' := [(3, .int (nI (nN d l))), (0, .ref (A)), (1, .int (nI (s))), (2, .int (nI (q + 1)))]) (pc := 13) dX3_spotAt_13 rfl (by decide) rfl ?_
          refine J_iload_n (i := 2) (pc := 14) dX3_spotAt_14 rfl rfl ?_
          refine J_iload_n (i := 3) (pc := 15) dX3_spotAt_15 rfl rfl ?_
          refine J_icmp_gtN (tgt := 32) (pc := 16) dX3_spotAt_16 (by decide) (by omega) (by omega) (fun c16 => by exfalso; first | omega | simp_all) (fun c16 => ?_)
          refine J_aload_n (i := 0) (pc := 19) dX3_spotAt_19 rfl rfl ?_
          refine J_iconst (v := nI (2)) (pc := 20) dX3_spotAt_20 rfl ?_
          refine J_iload_n (i := 1) (pc := 21) dX3_spotAt_21 rfl rfl ?_
          refine J_imulN (pc := 22) dX3_spotAt_22 ?_
          refine J_iload_n (i := 2) (pc := 23) dX3_spotAt_23 rfl rfl ?_
          refine J_iconst (v := nI (1)) (pc := 24) dX3_spotAt_24 rfl ?_
          refine J_isubN (pc := 25) dX3_spotAt_25 (by omega) ?_
          rw [show q + 1 - 1 = q by omega]
          refine J_cSi (st := []) (As := [.ref (A), .int (nI ((2) * (s))), .int (nI (q))]) (pc := 26) dX3_spotAt_26 okX3_spotAt q4_44 q4_45 rfl (Nat.le_of_ble_eq_true rfl) (Nat.le_of_ble_eq_true rfl) (ih (2 * s) l q hr.2.1 p1 hd1 (by omega)) ?_
          refine J_goto (tgt := 46) (pc := 29) dX3_spotAt_29 (by decide) ?_
          refine J_iret (ty := .int) (pc := 46) dX3_spotAt_46 rfl rfl ?_
          exact ⟨rfl, rfl⟩
        · rw [if_neg hc]
          refine J_iload_n (i := 2) (pc := 0) dX3_spotAt_0 rfl rfl ?_
          refine J_if_neN (tgt := 6) (pc := 1) dX3_spotAt_1 (by decide) (by omega) (fun c1 => ?_) (fun c1 => by exfalso; first | omega | simp_all)
          refine J_aload_n (i := 0) (pc := 6) dX3_spotAt_6 rfl rfl ?_
          refine J_iconst (v := nI (2)) (pc := 7) dX3_spotAt_7 rfl ?_
          refine J_iload_n (i := 1) (pc := 8) dX3_spotAt_8 rfl rfl ?_
          refine J_imulN (pc := 9) dX3_spotAt_9 ?_
          refine J_cSi (st := []) (As := [.ref (A), .int (nI ((2) * (s)))]) (pc := 10) dX3_spotAt_10 okX3_nodes q4_38 q4_39 rfl (Nat.le_of_ble_eq_true rfl) (Nat.le_of_ble_eq_true rfl) (m_nodes (dd := dd) hA d (2 * s) l hr.2.1 p1 hd1) ?_
          refine J_istore_n (i := 3) (lv' := [(3, .int (nI (nN d l))), (0, .ref (A)), (1, .int (nI (s))), (2, .int (nI (q + 1)))]) (pc := 13) dX3_spotAt_13 rfl (by decide) rfl ?_
          refine J_iload_n (i := 2) (pc := 14) dX3_spotAt_14 rfl rfl ?_
          refine J_iload_n (i := 3) (pc := 15) dX3_spotAt_15 rfl rfl ?_
          refine J_icmp_gtN (tgt := 32) (pc := 16) dX3_spotAt_16 (by decide) (by omega) (by omega) (fun c16 => ?_) (fun c16 => by exfalso; first | omega | simp_all)
          refine J_aload_n (i := 0) (pc := 32) dX3_spotAt_32 rfl rfl ?_
          refine J_iconst (v := nI (2)) (pc := 33) dX3_spotAt_33 rfl ?_
          refine J_iload_n (i := 1) (pc := 34) dX3_spotAt_34 rfl rfl ?_
          refine J_imulN (pc := 35) dX3_spotAt_35 ?_
          refine J_iconst (v := nI (1)) (pc := 36) dX3_spotAt_36 rfl ?_
          refine J_iaddN (pc := 37) dX3_spotAt_37 ?_
          refine J_iload_n (i := 2) (pc := 38) dX3_spotAt_38 rfl rfl ?_
          refine J_iconst (v := nI (1)) (pc := 39) dX3_spotAt_39 rfl ?_
          refine J_isubN (pc := 40) dX3_spotAt_40 (by omega) ?_
          rw [show q + 1 - 1 = q by omega]
          refine J_iload_n (i := 3) (pc := 41) dX3_spotAt_41 rfl rfl ?_
          refine J_isubN (pc := 42) dX3_spotAt_42 (by omega) ?_
          refine J_cSi (st := []) (As := [.ref (A), .int (nI (((2) * (s)) + 1)), .int (nI ((q) - (nN d l)))]) (pc := 43) dX3_spotAt_43 okX3_spotAt q4_44 q4_45 rfl (Nat.le_of_ble_eq_true rfl) (Nat.le_of_ble_eq_true rfl) ((by have r9 := ih (2 * s + 1) r (q - nN d l) hr.2.2 p2 hd1 (by omega); exact r9)) ?_
          refine J_iret (ty := .int) (pc := 46) dX3_spotAt_46 rfl rfl ?_
          exact ⟨rfl, rfl⟩

theorem row_at {f : Nat → Int32} : ∀ (d s D : Nat) (t : TR d) (q : Nat), RW f d s t → (s + 1) * 2 ^ d ≤ 64 → 2 ^ D ≤ s → s < 2 ^ (D + 1) → q < nN d t →
    spT d s t q < 64 ∧ (f (5 * spT d s t q) = nI (if (rowT d D t q).1 = none then 1 else 2)) ∧ (∀ c, (rowT d D t q).1 = some c → f (5 * spT d s t q + 1) = nI (c / 51) ∧ f (5 * spT d s t q + 2) = nI (c % 51) ∧ ∃ d' l, d' < d ∧ RW f d' (2 * spT d s t q) l ∧ (2 * spT d s t q + 1) * 2 ^ d' ≤ 64 ∧ hiT d t q = some (q + 1 + nN d' l)) ∧ ((rowT d D t q).1 = none → hiT d t q = none) ∧
    f (5 * spT d s t q + 3) = nI (rowT d D t q).2.1 ∧ f (5 * spT d s t q + 4) = nI (rowT d D t q).2.2.1 ∧ 2 ^ (rowT d D t q).2.2.2 ≤ spT d s t q ∧ spT d s t q < 2 ^ ((rowT d D t q).2.2.2 + 1)
  | 0, s, D, (st, mn), q, hr, hs, h1, h2, hq => ⟨sp64 hs, hr.1, fun c e => (by cases e), fun _ => rfl, hr.2.1, hr.2.2, h1, h2⟩
  | d + 1, s, D, t, q, hr, hs, h1, h2, hq => by
    obtain ⟨hs64, p1, p2⟩ := sp2 hs
    rcases TR_c t with ⟨st, mn, rfl⟩ | ⟨st, mn, c, l, r, rfl⟩
    · exact ⟨by show s < 64; omega, hr.1, fun c e => (by cases e), fun _ => rfl, hr.2.1, hr.2.2, h1, h2⟩
    · cases q with
      | zero =>
        refine ⟨by show s < 64; omega, hr.1.1, fun c2 e => ?_, fun e => (by cases e), hr.1.2.2.2.1, hr.1.2.2.2.2, h1, h2⟩
        cases e
        exact ⟨hr.1.2.1, hr.1.2.2.1, d, l, Nat.lt_succ_self d, hr.2.1, p1, by rw [hiT, Nat.zero_add]⟩
      | succ q =>
        have hq2 : q + 1 < 1 + nN d l + nN d r := hq
        rw [rowT, spT, hiT]
        have e2 : 2 ^ (D + 1 + 1) = 2 * 2 ^ (D + 1) := by rw [Nat.pow_succ, Nat.mul_comm]
        have e1 : 2 ^ (D + 1) = 2 * 2 ^ D := by rw [Nat.pow_succ, Nat.mul_comm]
        split
        · rename_i hc
          obtain ⟨r1, r2, r3, r4, r5, r6, r7, r8⟩ := row_at d (2 * s) (D + 1) l q hr.2.1 p1 (by omega) (by omega) hc
          refine ⟨r1, r2, fun c2 e => ?_, fun e => by rw [r4 e]; rfl, r5, r6, r7, r8⟩
          obtain ⟨x1, x2, d', l', x3, x4, x5, x6⟩ := r3 c2 e
          exact ⟨x1, x2, d', l', by omega, x4, x5, by rw [x6]; exact congrArg some (show q + 1 + nN d' l' + 1 = q + 1 + 1 + nN d' l' by omega)⟩
        · rename_i hc
          obtain ⟨r1, r2, r3, r4, r5, r6, r7, r8⟩ := row_at d (2 * s + 1) (D + 1) r (q - nN d l) hr.2.2 p2 (by omega) (by omega) (by omega)
          refine ⟨r1, r2, fun c2 e => ?_, fun e => by rw [r4 e]; rfl, r5, r6, r7, r8⟩
          obtain ⟨x1, x2, d', l', x3, x4, x5, x6⟩ := r3 c2 e
          exact ⟨x1, x2, d', l', by omega, x4, x5, by rw [x6]; exact congrArg some (show q - nN d l + 1 + nN d' l' + (1 + nN d l) = q + 1 + 1 + nN d' l' by omega)⟩

set_option maxHeartbeats 2000000 in
set_option maxRecDepth 20000 in
theorem m_depthOf {g : GT} {dd : Nat} {h : MH} : ∀ (D s : Nat), 2 ^ D ≤ s → s < 2 ^ (D + 1) → s < 64 → D < 1000 → J g (dd + D) 0 0 mX3_depthOf 0 (lv_args 0 [.int (nI s)]) [] h (RI (nI D) h) := by
  intro D
  induction D with
  | zero =>
    intro s h1 h2 h3 h4
    obtain rfl : s = 1 := by omega
    refine J_iload_n (i := 0) (pc := 0) dX3_depthOf_0 rfl rfl ?_
    refine J_iconst (v := nI (1)) (pc := 1) dX3_depthOf_1 rfl ?_
    refine J_icmp_neN (tgt := 9) (pc := 2) dX3_depthOf_2 (by decide) (by omega) (by omega) (fun c2 => by exfalso; first | omega | simp_all) (fun c2 => ?_)
    refine J_iconst (v := nI (0)) (pc := 5) dX3_depthOf_5 rfl ?_
    refine J_goto (tgt := 17) (pc := 6) dX3_depthOf_6 (by decide) ?_
    refine J_iret (ty := .int) (pc := 17) dX3_depthOf_17 rfl rfl ?_
    exact ⟨rfl, rfl⟩
  | succ D ih =>
    intro s h1 h2 h3 h4
    have e2 : 2 ^ (D + 1 + 1) = 2 * 2 ^ (D + 1) := by rw [Nat.pow_succ, Nat.mul_comm]
    have e1 : 2 ^ (D + 1) = 2 * 2 ^ D := by rw [Nat.pow_succ, Nat.mul_comm]
    have hpw := Nat.one_le_two_pow (n := D)
    show J g (dd + D + 1) 0 0 mX3_depthOf 0 _ [] h _
    refine J_iload_n (i := 0) (pc := 0) dX3_depthOf_0 rfl rfl ?_
    refine J_iconst (v := nI (1)) (pc := 1) dX3_depthOf_1 rfl ?_
    refine J_icmp_neN (tgt := 9) (pc := 2) dX3_depthOf_2 (by decide) (by omega) (by omega) (fun c2 => ?_) (fun c2 => by exfalso; first | omega | simp_all)
    refine J_iconst (v := nI (1)) (pc := 9) dX3_depthOf_9 rfl ?_
    refine J_iload_n (i := 0) (pc := 10) dX3_depthOf_10 rfl rfl ?_
    refine J_iconst (v := nI (2)) (pc := 11) dX3_depthOf_11 rfl ?_
    refine J_idivN (pc := 12) dX3_depthOf_12 (by omega) (by omega) (by omega) ?_
    refine J_cSi (st := [.int (nI (1))]) (As := [.int (nI ((s) / (2)))]) (pc := 13) dX3_depthOf_13 okX3_depthOf q4_47 q4_48 rfl (Nat.le_of_ble_eq_true rfl) (Nat.le_of_ble_eq_true rfl) (ih (s / 2) (by omega) (by omega) (by omega) (by omega)) ?_
    refine J_iaddN (pc := 16) dX3_depthOf_16 ?_
    refine J_iret (ty := .int) (pc := 17) dX3_depthOf_17 rfl rfl ?_
    exact ⟨congrArg (fun z : Int32 => (Sum.inl (some (Value.int z)) : RT)) (by congr 1; omega), rfl⟩

set_option maxHeartbeats 2000000 in
set_option maxRecDepth 20000 in
theorem m_nodeTold0 {g : GT} {dd : Nat} {h : MH} {A : Nat} {f : Nat → Int32} (hA : h.2 A = some (aI 320 f)) {t : TR 5} {p : Nat} (hr : RW f 5 1 t) (hp : p < nN 5 t) : J g (dd + 12) 0 0 mX3_nodeTold 0 (lv_args 0 [.ref A, .int (nI p), .int (nI 0)]) [] h (RI (enc (ndS t p 0)) h) := by
  obtain ⟨r1, r2, r3, r4, r5, r6, r7, r8⟩ := row_at 5 1 0 t p hr (by decide) (by decide) (by decide) hp
  have hdp := (row_dep 5 0 t p hp).2.1
  have hp63 := nN_63 t (by decide)
  cases ce : (rowT 5 0 t p).1 with
  | none =>
    refine J_aload_n (i := 0) (pc := 0) dX3_nodeTold_0 rfl rfl ?_
    refine J_iconst (v := nI (1)) (pc := 1) dX3_nodeTold_1 rfl ?_
    refine J_iload_n (i := 1) (pc := 2) dX3_nodeTold_2 rfl rfl ?_
    refine J_cSi (st := []) (As := [.ref (A), .int (nI (1)), .int (nI (p))]) (pc := 3) dX3_nodeTold_3 okX3_spotAt q4_44 q4_45 rfl (Nat.le_of_ble_eq_true rfl) (Nat.le_of_ble_eq_true rfl) (m_spotAt (dd := dd + 5) hA 5 1 t p hr (by decide) (by decide) hp) ?_
    refine J_istore_n (i := 3) (lv' := [(3, .int (nI (spT 5 1 t p))), (0, .ref (A)), (1, .int (nI (p))), (2, .int (nI (0)))]) (pc := 6) dX3_nodeTold_6 rfl (by decide) rfl ?_
    refine J_aload_n (i := 0) (pc := 7) dX3_nodeTold_7 rfl rfl ?_
    refine J_iload_n (i := 3) (pc := 8) dX3_nodeTold_8 rfl rfl ?_
    refine J_cSi (st := []) (As := [.ref (A), .int (nI (spT 5 1 t p))]) (pc := 9) dX3_nodeTold_9 okX3_isFork q4_20 q4_21 rfl (Nat.le_of_ble_eq_true rfl) (Nat.le_of_ble_eq_true rfl) (m_isForkF hA r1 (by rw [r2, ce]; rfl)) ?_
    refine J_istore (i := 4) (lv' := [(4, .int (nI (0))), (3, .int (nI (spT 5 1 t p))), (0, .ref (A)), (1, .int (nI (p))), (2, .int (nI (0)))]) (pc := 12) dX3_nodeTold_12 (by decide) rfl ?_
    refine J_iload_n (i := 2) (pc := 14) dX3_nodeTold_14 rfl rfl ?_
    refine J_tableIn (off := 37) (tgt := 52) (pc := 15) dX3_nodeTold_15 (by decide) (by decide) (by decide +kernel) (by decide) ?_
    refine J_iload (i := 4) (pc := 52) dX3_nodeTold_52 rfl ?_
    refine J_if_eqN (tgt := 67) (pc := 54) dX3_nodeTold_54 (by decide) (by omega) (fun c54 => ?_) (fun c54 => by exfalso; first | omega | simp_all)
    refine J_iconst (v := (-1)) (pc := 67) dX3_nodeTold_67 rfl ?_
    refine J_iret (ty := .int) (pc := 68) dX3_nodeTold_68 rfl rfl ?_
    exact ⟨congrArg (fun z : Int32 => (Sum.inl (some (Value.int z)) : RT)) (by unfold ndS; simp only [ce]; rfl), rfl⟩
  | some c =>
    obtain ⟨x1, x2, d', l', x3, x4, x5, x6⟩ := r3 c ce
    have hl63 := nN_63 l' (by omega)
    refine J_aload_n (i := 0) (pc := 0) dX3_nodeTold_0 rfl rfl ?_
    refine J_iconst (v := nI (1)) (pc := 1) dX3_nodeTold_1 rfl ?_
    refine J_iload_n (i := 1) (pc := 2) dX3_nodeTold_2 rfl rfl ?_
    refine J_cSi (st := []) (As := [.ref (A), .int (nI (1)), .int (nI (p))]) (pc := 3) dX3_nodeTold_3 okX3_spotAt q4_44 q4_45 rfl (Nat.le_of_ble_eq_true rfl) (Nat.le_of_ble_eq_true rfl) (m_spotAt (dd := dd + 5) hA 5 1 t p hr (by decide) (by decide) hp) ?_
    refine J_istore_n (i := 3) (lv' := [(3, .int (nI (spT 5 1 t p))), (0, .ref (A)), (1, .int (nI (p))), (2, .int (nI (0)))]) (pc := 6) dX3_nodeTold_6 rfl (by decide) rfl ?_
    refine J_aload_n (i := 0) (pc := 7) dX3_nodeTold_7 rfl rfl ?_
    refine J_iload_n (i := 3) (pc := 8) dX3_nodeTold_8 rfl rfl ?_
    refine J_cSi (st := []) (As := [.ref (A), .int (nI (spT 5 1 t p))]) (pc := 9) dX3_nodeTold_9 okX3_isFork q4_20 q4_21 rfl (Nat.le_of_ble_eq_true rfl) (Nat.le_of_ble_eq_true rfl) (m_isForkT hA r1 (by rw [r2, ce]; rfl)) ?_
    refine J_istore (i := 4) (lv' := [(4, .int (nI (1))), (3, .int (nI (spT 5 1 t p))), (0, .ref (A)), (1, .int (nI (p))), (2, .int (nI (0)))]) (pc := 12) dX3_nodeTold_12 (by decide) rfl ?_
    refine J_iload_n (i := 2) (pc := 14) dX3_nodeTold_14 rfl rfl ?_
    refine J_tableIn (off := 37) (tgt := 52) (pc := 15) dX3_nodeTold_15 (by decide) (by decide) (by decide +kernel) (by decide) ?_
    refine J_iload (i := 4) (pc := 52) dX3_nodeTold_52 rfl ?_
    refine J_if_eqN (tgt := 67) (pc := 54) dX3_nodeTold_54 (by decide) (by omega) (fun c54 => by exfalso; first | omega | simp_all) (fun c54 => ?_)
    refine J_aload_n (i := 0) (pc := 57) dX3_nodeTold_57 rfl rfl ?_
    refine J_iconst (v := nI (5)) (pc := 58) dX3_nodeTold_58 rfl ?_
    refine J_iload_n (i := 3) (pc := 59) dX3_nodeTold_59 rfl rfl ?_
    refine J_imulN (pc := 60) dX3_nodeTold_60 ?_
    refine J_iconst (v := nI (1)) (pc := 61) dX3_nodeTold_61 rfl ?_
    refine J_iaddN (pc := 62) dX3_nodeTold_62 ?_
    refine J_iald (j := ((5) * (spT 5 1 t p)) + 1) (pc := 63) dX3_nodeTold_63 hA rfl (by omega) (by omega) ?_
    rw [show f (((5) * (spT 5 1 t p)) + 1) = nI (c / 51) from x1]
    refine J_goto (tgt := 68) (pc := 64) dX3_nodeTold_64 (by decide) ?_
    refine J_iret (ty := .int) (pc := 68) dX3_nodeTold_68 rfl rfl ?_
    exact ⟨congrArg (fun z : Int32 => (Sum.inl (some (Value.int z)) : RT)) (by unfold ndS; simp only [ce]; rfl), rfl⟩

set_option maxHeartbeats 2000000 in
set_option maxRecDepth 20000 in
theorem m_nodeTold1 {g : GT} {dd : Nat} {h : MH} {A : Nat} {f : Nat → Int32} (hA : h.2 A = some (aI 320 f)) {t : TR 5} {p : Nat} (hr : RW f 5 1 t) (hp : p < nN 5 t) : J g (dd + 12) 0 0 mX3_nodeTold 0 (lv_args 0 [.ref A, .int (nI p), .int (nI 1)]) [] h (RI (enc (ndS t p 1)) h) := by
  obtain ⟨r1, r2, r3, r4, r5, r6, r7, r8⟩ := row_at 5 1 0 t p hr (by decide) (by decide) (by decide) hp
  have hdp := (row_dep 5 0 t p hp).2.1
  have hp63 := nN_63 t (by decide)
  cases ce : (rowT 5 0 t p).1 with
  | none =>
    refine J_aload_n (i := 0) (pc := 0) dX3_nodeTold_0 rfl rfl ?_
    refine J_iconst (v := nI (1)) (pc := 1) dX3_nodeTold_1 rfl ?_
    refine J_iload_n (i := 1) (pc := 2) dX3_nodeTold_2 rfl rfl ?_
    refine J_cSi (st := []) (As := [.ref (A), .int (nI (1)), .int (nI (p))]) (pc := 3) dX3_nodeTold_3 okX3_spotAt q4_44 q4_45 rfl (Nat.le_of_ble_eq_true rfl) (Nat.le_of_ble_eq_true rfl) (m_spotAt (dd := dd + 5) hA 5 1 t p hr (by decide) (by decide) hp) ?_
    refine J_istore_n (i := 3) (lv' := [(3, .int (nI (spT 5 1 t p))), (0, .ref (A)), (1, .int (nI (p))), (2, .int (nI (1)))]) (pc := 6) dX3_nodeTold_6 rfl (by decide) rfl ?_
    refine J_aload_n (i := 0) (pc := 7) dX3_nodeTold_7 rfl rfl ?_
    refine J_iload_n (i := 3) (pc := 8) dX3_nodeTold_8 rfl rfl ?_
    refine J_cSi (st := []) (As := [.ref (A), .int (nI (spT 5 1 t p))]) (pc := 9) dX3_nodeTold_9 okX3_isFork q4_20 q4_21 rfl (Nat.le_of_ble_eq_true rfl) (Nat.le_of_ble_eq_true rfl) (m_isForkF hA r1 (by rw [r2, ce]; rfl)) ?_
    refine J_istore (i := 4) (lv' := [(4, .int (nI (0))), (3, .int (nI (spT 5 1 t p))), (0, .ref (A)), (1, .int (nI (p))), (2, .int (nI (1)))]) (pc := 12) dX3_nodeTold_12 (by decide) rfl ?_
    refine J_iload_n (i := 2) (pc := 14) dX3_nodeTold_14 rfl rfl ?_
    refine J_tableIn (off := 54) (tgt := 69) (pc := 15) dX3_nodeTold_15 (by decide) (by decide) (by decide +kernel) (by decide) ?_
    refine J_iload (i := 4) (pc := 69) dX3_nodeTold_69 rfl ?_
    refine J_if_eqN (tgt := 84) (pc := 71) dX3_nodeTold_71 (by decide) (by omega) (fun c71 => ?_) (fun c71 => by exfalso; first | omega | simp_all)
    refine J_iconst (v := (-1)) (pc := 84) dX3_nodeTold_84 rfl ?_
    refine J_iret (ty := .int) (pc := 85) dX3_nodeTold_85 rfl rfl ?_
    exact ⟨congrArg (fun z : Int32 => (Sum.inl (some (Value.int z)) : RT)) (by unfold ndS; simp only [ce]; rfl), rfl⟩
  | some c =>
    obtain ⟨x1, x2, d', l', x3, x4, x5, x6⟩ := r3 c ce
    have hl63 := nN_63 l' (by omega)
    refine J_aload_n (i := 0) (pc := 0) dX3_nodeTold_0 rfl rfl ?_
    refine J_iconst (v := nI (1)) (pc := 1) dX3_nodeTold_1 rfl ?_
    refine J_iload_n (i := 1) (pc := 2) dX3_nodeTold_2 rfl rfl ?_
    refine J_cSi (st := []) (As := [.ref (A), .int (nI (1)), .int (nI (p))]) (pc := 3) dX3_nodeTold_3 okX3_spotAt q4_44 q4_45 rfl (Nat.le_of_ble_eq_true rfl) (Nat.le_of_ble_eq_true rfl) (m_spotAt (dd := dd + 5) hA 5 1 t p hr (by decide) (by decide) hp) ?_
    refine J_istore_n (i := 3) (lv' := [(3, .int (nI (spT 5 1 t p))), (0, .ref (A)), (1, .int (nI (p))), (2, .int (nI (1)))]) (pc := 6) dX3_nodeTold_6 rfl (by decide) rfl ?_
    refine J_aload_n (i := 0) (pc := 7) dX3_nodeTold_7 rfl rfl ?_
    refine J_iload_n (i := 3) (pc := 8) dX3_nodeTold_8 rfl rfl ?_
    refine J_cSi (st := []) (As := [.ref (A), .int (nI (spT 5 1 t p))]) (pc := 9) dX3_nodeTold_9 okX3_isFork q4_20 q4_21 rfl (Nat.le_of_ble_eq_true rfl) (Nat.le_of_ble_eq_true rfl) (m_isForkT hA r1 (by rw [r2, ce]; rfl)) ?_
    refine J_istore (i := 4) (lv' := [(4, .int (nI (1))), (3, .int (nI (spT 5 1 t p))), (0, .ref (A)), (1, .int (nI (p))), (2, .int (nI (1)))]) (pc := 12) dX3_nodeTold_12 (by decide) rfl ?_
    refine J_iload_n (i := 2) (pc := 14) dX3_nodeTold_14 rfl rfl ?_
    refine J_tableIn (off := 54) (tgt := 69) (pc := 15) dX3_nodeTold_15 (by decide) (by decide) (by decide +kernel) (by decide) ?_
    refine J_iload (i := 4) (pc := 69) dX3_nodeTold_69 rfl ?_
    refine J_if_eqN (tgt := 84) (pc := 71) dX3_nodeTold_71 (by decide) (by omega) (fun c71 => by exfalso; first | omega | simp_all) (fun c71 => ?_)
    refine J_aload_n (i := 0) (pc := 74) dX3_nodeTold_74 rfl rfl ?_
    refine J_iconst (v := nI (5)) (pc := 75) dX3_nodeTold_75 rfl ?_
    refine J_iload_n (i := 3) (pc := 76) dX3_nodeTold_76 rfl rfl ?_
    refine J_imulN (pc := 77) dX3_nodeTold_77 ?_
    refine J_iconst (v := nI (2)) (pc := 78) dX3_nodeTold_78 rfl ?_
    refine J_iaddN (pc := 79) dX3_nodeTold_79 ?_
    refine J_iald (j := ((5) * (spT 5 1 t p)) + 2) (pc := 80) dX3_nodeTold_80 hA rfl (by omega) (by omega) ?_
    rw [show f (((5) * (spT 5 1 t p)) + 2) = nI (c % 51) from x2]
    refine J_goto (tgt := 85) (pc := 81) dX3_nodeTold_81 (by decide) ?_
    refine J_iret (ty := .int) (pc := 85) dX3_nodeTold_85 rfl rfl ?_
    exact ⟨congrArg (fun z : Int32 => (Sum.inl (some (Value.int z)) : RT)) (by unfold ndS; simp only [ce]; rfl), rfl⟩

set_option maxHeartbeats 2000000 in
set_option maxRecDepth 20000 in
theorem m_nodeTold2 {g : GT} {dd : Nat} {h : MH} {A : Nat} {f : Nat → Int32} (hA : h.2 A = some (aI 320 f)) {t : TR 5} {p : Nat} (hr : RW f 5 1 t) (hp : p < nN 5 t) : J g (dd + 12) 0 0 mX3_nodeTold 0 (lv_args 0 [.ref A, .int (nI p), .int (nI 2)]) [] h (RI (enc (ndS t p 2)) h) := by
  obtain ⟨r1, r2, r3, r4, r5, r6, r7, r8⟩ := row_at 5 1 0 t p hr (by decide) (by decide) (by decide) hp
  have hdp := (row_dep 5 0 t p hp).2.1
  have hp63 := nN_63 t (by decide)
  cases ce : (rowT 5 0 t p).1 with
  | none =>
    refine J_aload_n (i := 0) (pc := 0) dX3_nodeTold_0 rfl rfl ?_
    refine J_iconst (v := nI (1)) (pc := 1) dX3_nodeTold_1 rfl ?_
    refine J_iload_n (i := 1) (pc := 2) dX3_nodeTold_2 rfl rfl ?_
    refine J_cSi (st := []) (As := [.ref (A), .int (nI (1)), .int (nI (p))]) (pc := 3) dX3_nodeTold_3 okX3_spotAt q4_44 q4_45 rfl (Nat.le_of_ble_eq_true rfl) (Nat.le_of_ble_eq_true rfl) (m_spotAt (dd := dd + 5) hA 5 1 t p hr (by decide) (by decide) hp) ?_
    refine J_istore_n (i := 3) (lv' := [(3, .int (nI (spT 5 1 t p))), (0, .ref (A)), (1, .int (nI (p))), (2, .int (nI (2)))]) (pc := 6) dX3_nodeTold_6 rfl (by decide) rfl ?_
    refine J_aload_n (i := 0) (pc := 7) dX3_nodeTold_7 rfl rfl ?_
    refine J_iload_n (i := 3) (pc := 8) dX3_nodeTold_8 rfl rfl ?_
    refine J_cSi (st := []) (As := [.ref (A), .int (nI (spT 5 1 t p))]) (pc := 9) dX3_nodeTold_9 okX3_isFork q4_20 q4_21 rfl (Nat.le_of_ble_eq_true rfl) (Nat.le_of_ble_eq_true rfl) (m_isForkF hA r1 (by rw [r2, ce]; rfl)) ?_
    refine J_istore (i := 4) (lv' := [(4, .int (nI (0))), (3, .int (nI (spT 5 1 t p))), (0, .ref (A)), (1, .int (nI (p))), (2, .int (nI (2)))]) (pc := 12) dX3_nodeTold_12 (by decide) rfl ?_
    refine J_iload_n (i := 2) (pc := 14) dX3_nodeTold_14 rfl rfl ?_
    refine J_tableIn (off := 71) (tgt := 86) (pc := 15) dX3_nodeTold_15 (by decide) (by decide) (by decide +kernel) (by decide) ?_
    refine J_aload_n (i := 0) (pc := 86) dX3_nodeTold_86 rfl rfl ?_
    refine J_iconst (v := nI (5)) (pc := 87) dX3_nodeTold_87 rfl ?_
    refine J_iload_n (i := 3) (pc := 88) dX3_nodeTold_88 rfl rfl ?_
    refine J_imulN (pc := 89) dX3_nodeTold_89 ?_
    refine J_iconst (v := nI (3)) (pc := 90) dX3_nodeTold_90 rfl ?_
    refine J_iaddN (pc := 91) dX3_nodeTold_91 ?_
    refine J_iald (j := ((5) * (spT 5 1 t p)) + 3) (pc := 92) dX3_nodeTold_92 hA rfl (by omega) (by omega) ?_
    rw [show f (((5) * (spT 5 1 t p)) + 3) = nI ((rowT 5 0 t p).2.1) from r5]
    refine J_iret (ty := .int) (pc := 93) dX3_nodeTold_93 rfl rfl ?_
    exact ⟨rfl, rfl⟩
  | some c =>
    obtain ⟨x1, x2, d', l', x3, x4, x5, x6⟩ := r3 c ce
    have hl63 := nN_63 l' (by omega)
    refine J_aload_n (i := 0) (pc := 0) dX3_nodeTold_0 rfl rfl ?_
    refine J_iconst (v := nI (1)) (pc := 1) dX3_nodeTold_1 rfl ?_
    refine J_iload_n (i := 1) (pc := 2) dX3_nodeTold_2 rfl rfl ?_
    refine J_cSi (st := []) (As := [.ref (A), .int (nI (1)), .int (nI (p))]) (pc := 3) dX3_nodeTold_3 okX3_spotAt q4_44 q4_45 rfl (Nat.le_of_ble_eq_true rfl) (Nat.le_of_ble_eq_true rfl) (m_spotAt (dd := dd + 5) hA 5 1 t p hr (by decide) (by decide) hp) ?_
    refine J_istore_n (i := 3) (lv' := [(3, .int (nI (spT 5 1 t p))), (0, .ref (A)), (1, .int (nI (p))), (2, .int (nI (2)))]) (pc := 6) dX3_nodeTold_6 rfl (by decide) rfl ?_
    refine J_aload_n (i := 0) (pc := 7) dX3_nodeTold_7 rfl rfl ?_
    refine J_iload_n (i := 3) (pc := 8) dX3_nodeTold_8 rfl rfl ?_
    refine J_cSi (st := []) (As := [.ref (A), .int (nI (spT 5 1 t p))]) (pc := 9) dX3_nodeTold_9 okX3_isFork q4_20 q4_21 rfl (Nat.le_of_ble_eq_true rfl) (Nat.le_of_ble_eq_true rfl) (m_isForkT hA r1 (by rw [r2, ce]; rfl)) ?_
    refine J_istore (i := 4) (lv' := [(4, .int (nI (1))), (3, .int (nI (spT 5 1 t p))), (0, .ref (A)), (1, .int (nI (p))), (2, .int (nI (2)))]) (pc := 12) dX3_nodeTold_12 (by decide) rfl ?_
    refine J_iload_n (i := 2) (pc := 14) dX3_nodeTold_14 rfl rfl ?_
    refine J_tableIn (off := 71) (tgt := 86) (pc := 15) dX3_nodeTold_15 (by decide) (by decide) (by decide +kernel) (by decide) ?_
    refine J_aload_n (i := 0) (pc := 86) dX3_nodeTold_86 rfl rfl ?_
    refine J_iconst (v := nI (5)) (pc := 87) dX3_nodeTold_87 rfl ?_
    refine J_iload_n (i := 3) (pc := 88) dX3_nodeTold_88 rfl rfl ?_
    refine J_imulN (pc := 89) dX3_nodeTold_89 ?_
    refine J_iconst (v := nI (3)) (pc := 90) dX3_nodeTold_90 rfl ?_
    refine J_iaddN (pc := 91) dX3_nodeTold_91 ?_
    refine J_iald (j := ((5) * (spT 5 1 t p)) + 3) (pc := 92) dX3_nodeTold_92 hA rfl (by omega) (by omega) ?_
    rw [show f (((5) * (spT 5 1 t p)) + 3) = nI ((rowT 5 0 t p).2.1) from r5]
    refine J_iret (ty := .int) (pc := 93) dX3_nodeTold_93 rfl rfl ?_
    exact ⟨rfl, rfl⟩

set_option maxHeartbeats 2000000 in
set_option maxRecDepth 20000 in
theorem m_nodeTold3 {g : GT} {dd : Nat} {h : MH} {A : Nat} {f : Nat → Int32} (hA : h.2 A = some (aI 320 f)) {t : TR 5} {p : Nat} (hr : RW f 5 1 t) (hp : p < nN 5 t) : J g (dd + 12) 0 0 mX3_nodeTold 0 (lv_args 0 [.ref A, .int (nI p), .int (nI 3)]) [] h (RI (enc (ndS t p 3)) h) := by
  obtain ⟨r1, r2, r3, r4, r5, r6, r7, r8⟩ := row_at 5 1 0 t p hr (by decide) (by decide) (by decide) hp
  have hdp := (row_dep 5 0 t p hp).2.1
  have hp63 := nN_63 t (by decide)
  cases ce : (rowT 5 0 t p).1 with
  | none =>
    refine J_aload_n (i := 0) (pc := 0) dX3_nodeTold_0 rfl rfl ?_
    refine J_iconst (v := nI (1)) (pc := 1) dX3_nodeTold_1 rfl ?_
    refine J_iload_n (i := 1) (pc := 2) dX3_nodeTold_2 rfl rfl ?_
    refine J_cSi (st := []) (As := [.ref (A), .int (nI (1)), .int (nI (p))]) (pc := 3) dX3_nodeTold_3 okX3_spotAt q4_44 q4_45 rfl (Nat.le_of_ble_eq_true rfl) (Nat.le_of_ble_eq_true rfl) (m_spotAt (dd := dd + 5) hA 5 1 t p hr (by decide) (by decide) hp) ?_
    refine J_istore_n (i := 3) (lv' := [(3, .int (nI (spT 5 1 t p))), (0, .ref (A)), (1, .int (nI (p))), (2, .int (nI (3)))]) (pc := 6) dX3_nodeTold_6 rfl (by decide) rfl ?_
    refine J_aload_n (i := 0) (pc := 7) dX3_nodeTold_7 rfl rfl ?_
    refine J_iload_n (i := 3) (pc := 8) dX3_nodeTold_8 rfl rfl ?_
    refine J_cSi (st := []) (As := [.ref (A), .int (nI (spT 5 1 t p))]) (pc := 9) dX3_nodeTold_9 okX3_isFork q4_20 q4_21 rfl (Nat.le_of_ble_eq_true rfl) (Nat.le_of_ble_eq_true rfl) (m_isForkF hA r1 (by rw [r2, ce]; rfl)) ?_
    refine J_istore (i := 4) (lv' := [(4, .int (nI (0))), (3, .int (nI (spT 5 1 t p))), (0, .ref (A)), (1, .int (nI (p))), (2, .int (nI (3)))]) (pc := 12) dX3_nodeTold_12 (by decide) rfl ?_
    refine J_iload_n (i := 2) (pc := 14) dX3_nodeTold_14 rfl rfl ?_
    refine J_tableIn (off := 79) (tgt := 94) (pc := 15) dX3_nodeTold_15 (by decide) (by decide) (by decide +kernel) (by decide) ?_
    refine J_aload_n (i := 0) (pc := 94) dX3_nodeTold_94 rfl rfl ?_
    refine J_iconst (v := nI (5)) (pc := 95) dX3_nodeTold_95 rfl ?_
    refine J_iload_n (i := 3) (pc := 96) dX3_nodeTold_96 rfl rfl ?_
    refine J_imulN (pc := 97) dX3_nodeTold_97 ?_
    refine J_iconst (v := nI (4)) (pc := 98) dX3_nodeTold_98 rfl ?_
    refine J_iaddN (pc := 99) dX3_nodeTold_99 ?_
    refine J_iald (j := ((5) * (spT 5 1 t p)) + 4) (pc := 100) dX3_nodeTold_100 hA rfl (by omega) (by omega) ?_
    rw [show f (((5) * (spT 5 1 t p)) + 4) = nI ((rowT 5 0 t p).2.2.1) from r6]
    refine J_iret (ty := .int) (pc := 101) dX3_nodeTold_101 rfl rfl ?_
    exact ⟨rfl, rfl⟩
  | some c =>
    obtain ⟨x1, x2, d', l', x3, x4, x5, x6⟩ := r3 c ce
    have hl63 := nN_63 l' (by omega)
    refine J_aload_n (i := 0) (pc := 0) dX3_nodeTold_0 rfl rfl ?_
    refine J_iconst (v := nI (1)) (pc := 1) dX3_nodeTold_1 rfl ?_
    refine J_iload_n (i := 1) (pc := 2) dX3_nodeTold_2 rfl rfl ?_
    refine J_cSi (st := []) (As := [.ref (A), .int (nI (1)), .int (nI (p))]) (pc := 3) dX3_nodeTold_3 okX3_spotAt q4_44 q4_45 rfl (Nat.le_of_ble_eq_true rfl) (Nat.le_of_ble_eq_true rfl) (m_spotAt (dd := dd + 5) hA 5 1 t p hr (by decide) (by decide) hp) ?_
    refine J_istore_n (i := 3) (lv' := [(3, .int (nI (spT 5 1 t p))), (0, .ref (A)), (1, .int (nI (p))), (2, .int (nI (3)))]) (pc := 6) dX3_nodeTold_6 rfl (by decide) rfl ?_
    refine J_aload_n (i := 0) (pc := 7) dX3_nodeTold_7 rfl rfl ?_
    refine J_iload_n (i := 3) (pc := 8) dX3_nodeTold_8 rfl rfl ?_
    refine J_cSi (st := []) (As := [.ref (A), .int (nI (spT 5 1 t p))]) (pc := 9) dX3_nodeTold_9 okX3_isFork q4_20 q4_21 rfl (Nat.le_of_ble_eq_true rfl) (Nat.le_of_ble_eq_true rfl) (m_isForkT hA r1 (by rw [r2, ce]; rfl)) ?_
    refine J_istore (i := 4) (lv' := [(4, .int (nI (1))), (3, .int (nI (spT 5 1 t p))), (0, .ref (A)), (1, .int (nI (p))), (2, .int (nI (3)))]) (pc := 12) dX3_nodeTold_12 (by decide) rfl ?_
    refine J_iload_n (i := 2) (pc := 14) dX3_nodeTold_14 rfl rfl ?_
    refine J_tableIn (off := 79) (tgt := 94) (pc := 15) dX3_nodeTold_15 (by decide) (by decide) (by decide +kernel) (by decide) ?_
    refine J_aload_n (i := 0) (pc := 94) dX3_nodeTold_94 rfl rfl ?_
    refine J_iconst (v := nI (5)) (pc := 95) dX3_nodeTold_95 rfl ?_
    refine J_iload_n (i := 3) (pc := 96) dX3_nodeTold_96 rfl rfl ?_
    refine J_imulN (pc := 97) dX3_nodeTold_97 ?_
    refine J_iconst (v := nI (4)) (pc := 98) dX3_nodeTold_98 rfl ?_
    refine J_iaddN (pc := 99) dX3_nodeTold_99 ?_
    refine J_iald (j := ((5) * (spT 5 1 t p)) + 4) (pc := 100) dX3_nodeTold_100 hA rfl (by omega) (by omega) ?_
    rw [show f (((5) * (spT 5 1 t p)) + 4) = nI ((rowT 5 0 t p).2.2.1) from r6]
    refine J_iret (ty := .int) (pc := 101) dX3_nodeTold_101 rfl rfl ?_
    exact ⟨rfl, rfl⟩

set_option maxHeartbeats 2000000 in
set_option maxRecDepth 20000 in
theorem m_nodeTold4 {g : GT} {dd : Nat} {h : MH} {A : Nat} {f : Nat → Int32} (hA : h.2 A = some (aI 320 f)) {t : TR 5} {p : Nat} (hr : RW f 5 1 t) (hp : p < nN 5 t) : J g (dd + 12) 0 0 mX3_nodeTold 0 (lv_args 0 [.ref A, .int (nI p), .int (nI 4)]) [] h (RI (enc (ndS t p 4)) h) := by
  obtain ⟨r1, r2, r3, r4, r5, r6, r7, r8⟩ := row_at 5 1 0 t p hr (by decide) (by decide) (by decide) hp
  have hdp := (row_dep 5 0 t p hp).2.1
  have hp63 := nN_63 t (by decide)
  cases ce : (rowT 5 0 t p).1 with
  | none =>
    refine J_aload_n (i := 0) (pc := 0) dX3_nodeTold_0 rfl rfl ?_
    refine J_iconst (v := nI (1)) (pc := 1) dX3_nodeTold_1 rfl ?_
    refine J_iload_n (i := 1) (pc := 2) dX3_nodeTold_2 rfl rfl ?_
    refine J_cSi (st := []) (As := [.ref (A), .int (nI (1)), .int (nI (p))]) (pc := 3) dX3_nodeTold_3 okX3_spotAt q4_44 q4_45 rfl (Nat.le_of_ble_eq_true rfl) (Nat.le_of_ble_eq_true rfl) (m_spotAt (dd := dd + 5) hA 5 1 t p hr (by decide) (by decide) hp) ?_
    refine J_istore_n (i := 3) (lv' := [(3, .int (nI (spT 5 1 t p))), (0, .ref (A)), (1, .int (nI (p))), (2, .int (nI (4)))]) (pc := 6) dX3_nodeTold_6 rfl (by decide) rfl ?_
    refine J_aload_n (i := 0) (pc := 7) dX3_nodeTold_7 rfl rfl ?_
    refine J_iload_n (i := 3) (pc := 8) dX3_nodeTold_8 rfl rfl ?_
    refine J_cSi (st := []) (As := [.ref (A), .int (nI (spT 5 1 t p))]) (pc := 9) dX3_nodeTold_9 okX3_isFork q4_20 q4_21 rfl (Nat.le_of_ble_eq_true rfl) (Nat.le_of_ble_eq_true rfl) (m_isForkF hA r1 (by rw [r2, ce]; rfl)) ?_
    refine J_istore (i := 4) (lv' := [(4, .int (nI (0))), (3, .int (nI (spT 5 1 t p))), (0, .ref (A)), (1, .int (nI (p))), (2, .int (nI (4)))]) (pc := 12) dX3_nodeTold_12 (by decide) rfl ?_
    refine J_iload_n (i := 2) (pc := 14) dX3_nodeTold_14 rfl rfl ?_
    refine J_tableIn (off := 87) (tgt := 102) (pc := 15) dX3_nodeTold_15 (by decide) (by decide) (by decide +kernel) (by decide) ?_
    refine J_iload_n (i := 3) (pc := 102) dX3_nodeTold_102 rfl rfl ?_
    refine J_cSi (st := []) (As := [.int (nI (spT 5 1 t p))]) (pc := 103) dX3_nodeTold_103 okX3_depthOf q4_47 q4_48 rfl (Nat.le_of_ble_eq_true rfl) (Nat.le_of_ble_eq_true rfl) ((by have r9 := m_depthOf (g := g) (dd := dd + 11 - (rowT 5 0 t p).2.2.2) (h := h) (rowT 5 0 t p).2.2.2 (spT 5 1 t p) r7 r8 r1 (by omega); rw [show dd + 11 - (rowT 5 0 t p).2.2.2 + (rowT 5 0 t p).2.2.2 = dd + 11 by omega] at r9; exact r9)) ?_
    refine J_iret (ty := .int) (pc := 106) dX3_nodeTold_106 rfl rfl ?_
    exact ⟨rfl, rfl⟩
  | some c =>
    obtain ⟨x1, x2, d', l', x3, x4, x5, x6⟩ := r3 c ce
    have hl63 := nN_63 l' (by omega)
    refine J_aload_n (i := 0) (pc := 0) dX3_nodeTold_0 rfl rfl ?_
    refine J_iconst (v := nI (1)) (pc := 1) dX3_nodeTold_1 rfl ?_
    refine J_iload_n (i := 1) (pc := 2) dX3_nodeTold_2 rfl rfl ?_
    refine J_cSi (st := []) (As := [.ref (A), .int (nI (1)), .int (nI (p))]) (pc := 3) dX3_nodeTold_3 okX3_spotAt q4_44 q4_45 rfl (Nat.le_of_ble_eq_true rfl) (Nat.le_of_ble_eq_true rfl) (m_spotAt (dd := dd + 5) hA 5 1 t p hr (by decide) (by decide) hp) ?_
    refine J_istore_n (i := 3) (lv' := [(3, .int (nI (spT 5 1 t p))), (0, .ref (A)), (1, .int (nI (p))), (2, .int (nI (4)))]) (pc := 6) dX3_nodeTold_6 rfl (by decide) rfl ?_
    refine J_aload_n (i := 0) (pc := 7) dX3_nodeTold_7 rfl rfl ?_
    refine J_iload_n (i := 3) (pc := 8) dX3_nodeTold_8 rfl rfl ?_
    refine J_cSi (st := []) (As := [.ref (A), .int (nI (spT 5 1 t p))]) (pc := 9) dX3_nodeTold_9 okX3_isFork q4_20 q4_21 rfl (Nat.le_of_ble_eq_true rfl) (Nat.le_of_ble_eq_true rfl) (m_isForkT hA r1 (by rw [r2, ce]; rfl)) ?_
    refine J_istore (i := 4) (lv' := [(4, .int (nI (1))), (3, .int (nI (spT 5 1 t p))), (0, .ref (A)), (1, .int (nI (p))), (2, .int (nI (4)))]) (pc := 12) dX3_nodeTold_12 (by decide) rfl ?_
    refine J_iload_n (i := 2) (pc := 14) dX3_nodeTold_14 rfl rfl ?_
    refine J_tableIn (off := 87) (tgt := 102) (pc := 15) dX3_nodeTold_15 (by decide) (by decide) (by decide +kernel) (by decide) ?_
    refine J_iload_n (i := 3) (pc := 102) dX3_nodeTold_102 rfl rfl ?_
    refine J_cSi (st := []) (As := [.int (nI (spT 5 1 t p))]) (pc := 103) dX3_nodeTold_103 okX3_depthOf q4_47 q4_48 rfl (Nat.le_of_ble_eq_true rfl) (Nat.le_of_ble_eq_true rfl) ((by have r9 := m_depthOf (g := g) (dd := dd + 11 - (rowT 5 0 t p).2.2.2) (h := h) (rowT 5 0 t p).2.2.2 (spT 5 1 t p) r7 r8 r1 (by omega); rw [show dd + 11 - (rowT 5 0 t p).2.2.2 + (rowT 5 0 t p).2.2.2 = dd + 11 by omega] at r9; exact r9)) ?_
    refine J_iret (ty := .int) (pc := 106) dX3_nodeTold_106 rfl rfl ?_
    exact ⟨rfl, rfl⟩

set_option maxHeartbeats 2000000 in
set_option maxRecDepth 20000 in
theorem m_nodeTold5 {g : GT} {dd : Nat} {h : MH} {A : Nat} {f : Nat → Int32} (hA : h.2 A = some (aI 320 f)) {t : TR 5} {p : Nat} (hr : RW f 5 1 t) (hp : p < nN 5 t) : J g (dd + 12) 0 0 mX3_nodeTold 0 (lv_args 0 [.ref A, .int (nI p), .int (nI 5)]) [] h (RI (enc (ndS t p 5)) h) := by
  obtain ⟨r1, r2, r3, r4, r5, r6, r7, r8⟩ := row_at 5 1 0 t p hr (by decide) (by decide) (by decide) hp
  have hdp := (row_dep 5 0 t p hp).2.1
  have hp63 := nN_63 t (by decide)
  cases ce : (rowT 5 0 t p).1 with
  | none =>
    refine J_aload_n (i := 0) (pc := 0) dX3_nodeTold_0 rfl rfl ?_
    refine J_iconst (v := nI (1)) (pc := 1) dX3_nodeTold_1 rfl ?_
    refine J_iload_n (i := 1) (pc := 2) dX3_nodeTold_2 rfl rfl ?_
    refine J_cSi (st := []) (As := [.ref (A), .int (nI (1)), .int (nI (p))]) (pc := 3) dX3_nodeTold_3 okX3_spotAt q4_44 q4_45 rfl (Nat.le_of_ble_eq_true rfl) (Nat.le_of_ble_eq_true rfl) (m_spotAt (dd := dd + 5) hA 5 1 t p hr (by decide) (by decide) hp) ?_
    refine J_istore_n (i := 3) (lv' := [(3, .int (nI (spT 5 1 t p))), (0, .ref (A)), (1, .int (nI (p))), (2, .int (nI (5)))]) (pc := 6) dX3_nodeTold_6 rfl (by decide) rfl ?_
    refine J_aload_n (i := 0) (pc := 7) dX3_nodeTold_7 rfl rfl ?_
    refine J_iload_n (i := 3) (pc := 8) dX3_nodeTold_8 rfl rfl ?_
    refine J_cSi (st := []) (As := [.ref (A), .int (nI (spT 5 1 t p))]) (pc := 9) dX3_nodeTold_9 okX3_isFork q4_20 q4_21 rfl (Nat.le_of_ble_eq_true rfl) (Nat.le_of_ble_eq_true rfl) (m_isForkF hA r1 (by rw [r2, ce]; rfl)) ?_
    refine J_istore (i := 4) (lv' := [(4, .int (nI (0))), (3, .int (nI (spT 5 1 t p))), (0, .ref (A)), (1, .int (nI (p))), (2, .int (nI (5)))]) (pc := 12) dX3_nodeTold_12 (by decide) rfl ?_
    refine J_iload_n (i := 2) (pc := 14) dX3_nodeTold_14 rfl rfl ?_
    refine J_tableIn (off := 92) (tgt := 107) (pc := 15) dX3_nodeTold_15 (by decide) (by decide) (by decide +kernel) (by decide) ?_
    refine J_iload (i := 4) (pc := 107) dX3_nodeTold_107 rfl ?_
    refine J_if_eqN (tgt := 118) (pc := 109) dX3_nodeTold_109 (by decide) (by omega) (fun c109 => ?_) (fun c109 => by exfalso; first | omega | simp_all)
    refine J_iconst (v := (-1)) (pc := 118) dX3_nodeTold_118 rfl ?_
    refine J_iret (ty := .int) (pc := 119) dX3_nodeTold_119 rfl rfl ?_
    exact ⟨congrArg (fun z : Int32 => (Sum.inl (some (Value.int z)) : RT)) (by unfold ndS; simp only [ce]; rfl), rfl⟩
  | some c =>
    obtain ⟨x1, x2, d', l', x3, x4, x5, x6⟩ := r3 c ce
    have hl63 := nN_63 l' (by omega)
    refine J_aload_n (i := 0) (pc := 0) dX3_nodeTold_0 rfl rfl ?_
    refine J_iconst (v := nI (1)) (pc := 1) dX3_nodeTold_1 rfl ?_
    refine J_iload_n (i := 1) (pc := 2) dX3_nodeTold_2 rfl rfl ?_
    refine J_cSi (st := []) (As := [.ref (A), .int (nI (1)), .int (nI (p))]) (pc := 3) dX3_nodeTold_3 okX3_spotAt q4_44 q4_45 rfl (Nat.le_of_ble_eq_true rfl) (Nat.le_of_ble_eq_true rfl) (m_spotAt (dd := dd + 5) hA 5 1 t p hr (by decide) (by decide) hp) ?_
    refine J_istore_n (i := 3) (lv' := [(3, .int (nI (spT 5 1 t p))), (0, .ref (A)), (1, .int (nI (p))), (2, .int (nI (5)))]) (pc := 6) dX3_nodeTold_6 rfl (by decide) rfl ?_
    refine J_aload_n (i := 0) (pc := 7) dX3_nodeTold_7 rfl rfl ?_
    refine J_iload_n (i := 3) (pc := 8) dX3_nodeTold_8 rfl rfl ?_
    refine J_cSi (st := []) (As := [.ref (A), .int (nI (spT 5 1 t p))]) (pc := 9) dX3_nodeTold_9 okX3_isFork q4_20 q4_21 rfl (Nat.le_of_ble_eq_true rfl) (Nat.le_of_ble_eq_true rfl) (m_isForkT hA r1 (by rw [r2, ce]; rfl)) ?_
    refine J_istore (i := 4) (lv' := [(4, .int (nI (1))), (3, .int (nI (spT 5 1 t p))), (0, .ref (A)), (1, .int (nI (p))), (2, .int (nI (5)))]) (pc := 12) dX3_nodeTold_12 (by decide) rfl ?_
    refine J_iload_n (i := 2) (pc := 14) dX3_nodeTold_14 rfl rfl ?_
    refine J_tableIn (off := 92) (tgt := 107) (pc := 15) dX3_nodeTold_15 (by decide) (by decide) (by decide +kernel) (by decide) ?_
    refine J_iload (i := 4) (pc := 107) dX3_nodeTold_107 rfl ?_
    refine J_if_eqN (tgt := 118) (pc := 109) dX3_nodeTold_109 (by decide) (by omega) (fun c109 => by exfalso; first | omega | simp_all) (fun c109 => ?_)
    refine J_iload_n (i := 1) (pc := 112) dX3_nodeTold_112 rfl rfl ?_
    refine J_iconst (v := nI (1)) (pc := 113) dX3_nodeTold_113 rfl ?_
    refine J_iaddN (pc := 114) dX3_nodeTold_114 ?_
    refine J_goto (tgt := 119) (pc := 115) dX3_nodeTold_115 (by decide) ?_
    refine J_iret (ty := .int) (pc := 119) dX3_nodeTold_119 rfl rfl ?_
    exact ⟨congrArg (fun z : Int32 => (Sum.inl (some (Value.int z)) : RT)) (by unfold ndS; simp only [ce]; rfl), rfl⟩

set_option maxHeartbeats 2000000 in
set_option maxRecDepth 20000 in
theorem m_nodeTold6 {g : GT} {dd : Nat} {h : MH} {A : Nat} {f : Nat → Int32} (hA : h.2 A = some (aI 320 f)) {t : TR 5} {p : Nat} (hr : RW f 5 1 t) (hp : p < nN 5 t) : J g (dd + 12) 0 0 mX3_nodeTold 0 (lv_args 0 [.ref A, .int (nI p), .int (nI 6)]) [] h (RI (enc (ndS t p 6)) h) := by
  obtain ⟨r1, r2, r3, r4, r5, r6, r7, r8⟩ := row_at 5 1 0 t p hr (by decide) (by decide) (by decide) hp
  have hdp := (row_dep 5 0 t p hp).2.1
  have hp63 := nN_63 t (by decide)
  cases ce : (rowT 5 0 t p).1 with
  | none =>
    refine J_aload_n (i := 0) (pc := 0) dX3_nodeTold_0 rfl rfl ?_
    refine J_iconst (v := nI (1)) (pc := 1) dX3_nodeTold_1 rfl ?_
    refine J_iload_n (i := 1) (pc := 2) dX3_nodeTold_2 rfl rfl ?_
    refine J_cSi (st := []) (As := [.ref (A), .int (nI (1)), .int (nI (p))]) (pc := 3) dX3_nodeTold_3 okX3_spotAt q4_44 q4_45 rfl (Nat.le_of_ble_eq_true rfl) (Nat.le_of_ble_eq_true rfl) (m_spotAt (dd := dd + 5) hA 5 1 t p hr (by decide) (by decide) hp) ?_
    refine J_istore_n (i := 3) (lv' := [(3, .int (nI (spT 5 1 t p))), (0, .ref (A)), (1, .int (nI (p))), (2, .int (nI (6)))]) (pc := 6) dX3_nodeTold_6 rfl (by decide) rfl ?_
    refine J_aload_n (i := 0) (pc := 7) dX3_nodeTold_7 rfl rfl ?_
    refine J_iload_n (i := 3) (pc := 8) dX3_nodeTold_8 rfl rfl ?_
    refine J_cSi (st := []) (As := [.ref (A), .int (nI (spT 5 1 t p))]) (pc := 9) dX3_nodeTold_9 okX3_isFork q4_20 q4_21 rfl (Nat.le_of_ble_eq_true rfl) (Nat.le_of_ble_eq_true rfl) (m_isForkF hA r1 (by rw [r2, ce]; rfl)) ?_
    refine J_istore (i := 4) (lv' := [(4, .int (nI (0))), (3, .int (nI (spT 5 1 t p))), (0, .ref (A)), (1, .int (nI (p))), (2, .int (nI (6)))]) (pc := 12) dX3_nodeTold_12 (by decide) rfl ?_
    refine J_iload_n (i := 2) (pc := 14) dX3_nodeTold_14 rfl rfl ?_
    refine J_tableOut (tgt := 120) (pc := 15) dX3_nodeTold_15 (by decide) (by decide) ?_
    refine J_iload (i := 4) (pc := 120) dX3_nodeTold_120 rfl ?_
    refine J_if_eqN (tgt := 139) (pc := 122) dX3_nodeTold_122 (by decide) (by omega) (fun c122 => ?_) (fun c122 => by exfalso; first | omega | simp_all)
    refine J_iconst (v := (-1)) (pc := 139) dX3_nodeTold_139 rfl ?_
    refine J_iret (ty := .int) (pc := 140) dX3_nodeTold_140 rfl rfl ?_
    exact ⟨congrArg (fun z : Int32 => (Sum.inl (some (Value.int z)) : RT)) (by show _ = enc (hiT 5 t p); rw [r4 ce]; rfl), rfl⟩
  | some c =>
    obtain ⟨x1, x2, d', l', x3, x4, x5, x6⟩ := r3 c ce
    have hl63 := nN_63 l' (by omega)
    refine J_aload_n (i := 0) (pc := 0) dX3_nodeTold_0 rfl rfl ?_
    refine J_iconst (v := nI (1)) (pc := 1) dX3_nodeTold_1 rfl ?_
    refine J_iload_n (i := 1) (pc := 2) dX3_nodeTold_2 rfl rfl ?_
    refine J_cSi (st := []) (As := [.ref (A), .int (nI (1)), .int (nI (p))]) (pc := 3) dX3_nodeTold_3 okX3_spotAt q4_44 q4_45 rfl (Nat.le_of_ble_eq_true rfl) (Nat.le_of_ble_eq_true rfl) (m_spotAt (dd := dd + 5) hA 5 1 t p hr (by decide) (by decide) hp) ?_
    refine J_istore_n (i := 3) (lv' := [(3, .int (nI (spT 5 1 t p))), (0, .ref (A)), (1, .int (nI (p))), (2, .int (nI (6)))]) (pc := 6) dX3_nodeTold_6 rfl (by decide) rfl ?_
    refine J_aload_n (i := 0) (pc := 7) dX3_nodeTold_7 rfl rfl ?_
    refine J_iload_n (i := 3) (pc := 8) dX3_nodeTold_8 rfl rfl ?_
    refine J_cSi (st := []) (As := [.ref (A), .int (nI (spT 5 1 t p))]) (pc := 9) dX3_nodeTold_9 okX3_isFork q4_20 q4_21 rfl (Nat.le_of_ble_eq_true rfl) (Nat.le_of_ble_eq_true rfl) (m_isForkT hA r1 (by rw [r2, ce]; rfl)) ?_
    refine J_istore (i := 4) (lv' := [(4, .int (nI (1))), (3, .int (nI (spT 5 1 t p))), (0, .ref (A)), (1, .int (nI (p))), (2, .int (nI (6)))]) (pc := 12) dX3_nodeTold_12 (by decide) rfl ?_
    refine J_iload_n (i := 2) (pc := 14) dX3_nodeTold_14 rfl rfl ?_
    refine J_tableOut (tgt := 120) (pc := 15) dX3_nodeTold_15 (by decide) (by decide) ?_
    refine J_iload (i := 4) (pc := 120) dX3_nodeTold_120 rfl ?_
    refine J_if_eqN (tgt := 139) (pc := 122) dX3_nodeTold_122 (by decide) (by omega) (fun c122 => by exfalso; first | omega | simp_all) (fun c122 => ?_)
    refine J_iload_n (i := 1) (pc := 125) dX3_nodeTold_125 rfl rfl ?_
    refine J_iconst (v := nI (1)) (pc := 126) dX3_nodeTold_126 rfl ?_
    refine J_iaddN (pc := 127) dX3_nodeTold_127 ?_
    refine J_aload_n (i := 0) (pc := 128) dX3_nodeTold_128 rfl rfl ?_
    refine J_iconst (v := nI (2)) (pc := 129) dX3_nodeTold_129 rfl ?_
    refine J_iload_n (i := 3) (pc := 130) dX3_nodeTold_130 rfl rfl ?_
    refine J_imulN (pc := 131) dX3_nodeTold_131 ?_
    refine J_cSi (st := [.int (nI (p + 1))]) (As := [.ref (A), .int (nI ((2) * (spT 5 1 t p)))]) (pc := 132) dX3_nodeTold_132 okX3_nodes q4_38 q4_39 rfl (Nat.le_of_ble_eq_true rfl) (Nat.le_of_ble_eq_true rfl) ((by have r9 := m_nodes (g := g) (dd := dd + 10 - d') hA d' _ l' x4 x5 (by omega); rw [show dd + 10 - d' + d' + 1 = dd + 11 by omega] at r9; exact r9)) ?_
    refine J_iaddN (pc := 135) dX3_nodeTold_135 ?_
    refine J_goto (tgt := 140) (pc := 136) dX3_nodeTold_136 (by decide) ?_
    refine J_iret (ty := .int) (pc := 140) dX3_nodeTold_140 rfl rfl ?_
    exact ⟨congrArg (fun z : Int32 => (Sum.inl (some (Value.int z)) : RT)) (by show _ = enc (hiT 5 t p); rw [x6]; rfl), rfl⟩

