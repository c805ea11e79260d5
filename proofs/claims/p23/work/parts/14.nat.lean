-- calls whose answer is an int and that leave the heap, and rules over ints that are nI of a number
abbrev RI (x : Int32) (h : MH) : RT → MH → Prop := fun r h' => r = .inl (some (.int x)) ∧ h' = h
abbrev RJl (x : Int64) (h : MH) : RT → MH → Prop := fun r h' => r = .inl (some (.long x)) ∧ h' = h
def bI (b : Bool) : Int32 := if b then 1 else 0
theorem andNN (a b : Nat) : nI a &&& nI b = nI (a &&& b) := by
  apply Int32.toBitVec_inj.mp
  show BitVec.ofNat 32 a &&& BitVec.ofNat 32 b = BitVec.ofNat 32 (a &&& b)
  apply BitVec.eq_of_toNat_eq
  rw [BitVec.toNat_and, BitVec.toNat_ofNat, BitVec.toNat_ofNat, BitVec.toNat_ofNat, Nat.and_mod_two_pow]
theorem orNN (a b : Nat) : nI a ||| nI b = nI (a ||| b) := by
  apply Int32.toBitVec_inj.mp
  show BitVec.ofNat 32 a ||| BitVec.ofNat 32 b = BitVec.ofNat 32 (a ||| b)
  apply BitVec.eq_of_toNat_eq
  rw [BitVec.toNat_or, BitVec.toNat_ofNat, BitVec.toNat_ofNat, BitVec.toNat_ofNat, Nat.or_mod_two_pow]
theorem xorNN (a b : Nat) : nI a ^^^ nI b = nI (a ^^^ b) := by
  apply Int32.toBitVec_inj.mp
  show BitVec.ofNat 32 a ^^^ BitVec.ofNat 32 b = BitVec.ofNat 32 (a ^^^ b)
  apply BitVec.eq_of_toNat_eq
  rw [BitVec.toNat_xor, BitVec.toNat_ofNat, BitVec.toNat_ofNat, BitVec.toNat_ofNat, Nat.xor_mod_two_pow]
theorem nI_inj {a b : Nat} (ha : a < 2 ^ 32) (hb : b < 2 ^ 32) (h : nI a = nI b) : a = b := by
  have h1 := congrArg (fun x : Int32 => x.toBitVec.toNat) h
  have h2 : (BitVec.ofNat 32 a).toNat = (BitVec.ofNat 32 b).toNat := h1
  rw [BitVec.toNat_ofNat, BitVec.toNat_ofNat, Nat.mod_eq_of_lt ha, Nat.mod_eq_of_lt hb] at h2
  exact h2
/-- a without b, as sets of bits -/
def sdf (a b : Nat) : Nat := a ^^^ (a &&& b)
theorem sdf_bit (a b k : Nat) : (sdf a b).testBit k = (a.testBit k && !b.testBit k) := by
  unfold sdf
  rw [Nat.testBit_xor, Nat.testBit_and]
  cases a.testBit k <;> cases b.testBit k <;> rfl
theorem sdf_le (a b : Nat) : sdf a b ≤ a := by
  apply Nat.le_of_testBit
  intro i hi
  rw [sdf_bit, Bool.and_eq_true] at hi
  exact hi.1
theorem andn {a b : Nat} : nI a &&& (nI b ^^^ (-1)) = nI (sdf a b) := by
  have h : nI b ^^^ (-1) = ~~~ (nI b) := by
    apply Int32.toBitVec_inj.mp
    show (nI b).toBitVec ^^^ (-1#32) = ~~~ (nI b).toBitVec
    rw [BitVec.neg_one_eq_allOnes, BitVec.xor_allOnes]
  rw [h]
  apply Int32.toBitVec_inj.mp
  apply BitVec.eq_of_getLsbD_eq
  intro i hi
  show ((BitVec.ofNat 32 a) &&& ~~~ (BitVec.ofNat 32 b)).getLsbD i = (BitVec.ofNat 32 (sdf a b)).getLsbD i
  simp only [BitVec.getLsbD_and, BitVec.getLsbD_not, BitVec.getLsbD_ofNat, sdf_bit, hi, decide_true, Bool.true_and]
theorem shlN {k : Nat} (hk : k < 31) : nI 1 <<< (nI k &&& 31) = nI (2 ^ k) := by
  have key : ∀ k, k < 31 → nI 1 <<< (nI k &&& 31) = nI (2 ^ k) := by decide +kernel
  exact key k hk
section JI
variable {g : GT} {d ca sa : Nat} {M : MT} {pc : Nat} {lv lv' : List (Nat × Value)} {st : List Value} {h : MH} {Q Q' : RT → MH → Prop}
theorem J_cVi {M1 : MT} {index n a ci : Nat} {fs As : List Value} {x : Int32} {T : u_T} {N : Nat} (hd : decode M.2.1 pc = .ok (.invokevirtual index, 3)) (hM : MOK M1 n) (hl : Cond.methodLink M.1.cls index M1.1 ∈ lw_tbl) (hi : Cond.instanceMethod M1.1 ∈ lw_tbl) (hs : Cond.selects M1.1.cls M1.1 M1.1 ∈ lw_tbl)
    (hc : vwCl[ci]? = some (M1.1.cls, T, N)) (ha : h.2 a = some (.inr (ci, fs))) (hn : As.length = n) (hlen : (lg_sl (.ref a :: As)).length ≤ M1.2.2.1) (hst : (st.map fun v => v.category).sum ≤ 8) (hj : J g d 0 0 M1 0 (lv_args 0 (.ref a :: As)) [] h (RI x h))
    (kk : J g (d + 1) ca sa M (pc + 3) lv (.int x :: st) h Q) : J g (d + 1) ca sa M pc lv (As.reverse ++ .ref a :: st) h Q :=
  J_callV hd hM hl hi hs hc ha hn hlen hst (fun E h' q => by cases q.1) hj (Nat.le_of_eq (Nat.zero_add _)) (Nat.le_of_eq (Nat.zero_add _)) (fun v h' q => by obtain ⟨q1, q2⟩ := q; cases q1; subst q2; exact kk)
theorem J_cSi {M1 : MT} {index n : Nat} {As : List Value} {x : Int32} (hd : decode M.2.1 pc = .ok (.invokestatic index, 3)) (hM : MOK M1 n) (hl : Cond.methodLink M.1.cls index M1.1 ∈ lw_tbl) (hs : Cond.static M1.1 ∈ lw_tbl)
    (hn : As.length = n) (hlen : (lg_sl As).length ≤ M1.2.2.1) (hst : (st.map fun v => v.category).sum ≤ 8) (hj : J g d 0 0 M1 0 (lv_args 0 As) [] h (RI x h))
    (kk : J g (d + 1) ca sa M (pc + 3) lv (.int x :: st) h Q) : J g (d + 1) ca sa M pc lv (As.reverse ++ st) h Q :=
  J_callS hd hM hl hs hn hlen hst (fun E h' q => by cases q.1) hj (Nat.le_of_eq (Nat.zero_add _)) (Nat.le_of_eq (Nat.zero_add _)) (fun v h' q => by obtain ⟨q1, q2⟩ := q; cases q1; subst q2; exact kk)
theorem J_cSNi {M1 : MT} {host : String} {index n : Nat} {As : List Value} {x : Int32} (hd : decode M.2.1 pc = .ok (.invokestatic index, 3)) (hM : MOK M1 n) (hl : Cond.methodLinkNest M.1.cls index M1.1 host ∈ lw_tbl) (hs : Cond.static M1.1 ∈ lw_tbl)
    (hn : As.length = n) (hlen : (lg_sl As).length ≤ M1.2.2.1) (hst : (st.map fun v => v.category).sum ≤ 8) (hj : J g d 0 0 M1 0 (lv_args 0 As) [] h (RI x h))
    (kk : J g (d + 1) ca sa M (pc + 3) lv (.int x :: st) h Q) : J g (d + 1) ca sa M pc lv (As.reverse ++ st) h Q :=
  J_callSN hd hM hl hs hn hlen hst (fun E h' q => by cases q.1) hj (Nat.le_of_eq (Nat.zero_add _)) (Nat.le_of_eq (Nat.zero_add _)) (fun v h' q => by obtain ⟨q1, q2⟩ := q; cases q1; subst q2; exact kk)
theorem J_cVl {M1 : MT} {index n a ci : Nat} {fs As : List Value} {x : Int64} {T : u_T} {N : Nat} (hd : decode M.2.1 pc = .ok (.invokevirtual index, 3)) (hM : MOK M1 n) (hl : Cond.methodLink M.1.cls index M1.1 ∈ lw_tbl) (hi : Cond.instanceMethod M1.1 ∈ lw_tbl) (hs : Cond.selects M1.1.cls M1.1 M1.1 ∈ lw_tbl)
    (hc : vwCl[ci]? = some (M1.1.cls, T, N)) (ha : h.2 a = some (.inr (ci, fs))) (hn : As.length = n) (hlen : (lg_sl (.ref a :: As)).length ≤ M1.2.2.1) (hst : (st.map fun v => v.category).sum ≤ 8) (hj : J g d 0 0 M1 0 (lv_args 0 (.ref a :: As)) [] h (RJl x h))
    (kk : J g (d + 1) ca sa M (pc + 3) lv (.long x :: st) h Q) : J g (d + 1) ca sa M pc lv (As.reverse ++ .ref a :: st) h Q :=
  J_callV hd hM hl hi hs hc ha hn hlen hst (fun E h' q => by cases q.1) hj (Nat.le_of_eq (Nat.zero_add _)) (Nat.le_of_eq (Nat.zero_add _)) (fun v h' q => by obtain ⟨q1, q2⟩ := q; cases q1; subst q2; exact kk)
theorem J_cSl {M1 : MT} {index n : Nat} {As : List Value} {x : Int64} (hd : decode M.2.1 pc = .ok (.invokestatic index, 3)) (hM : MOK M1 n) (hl : Cond.methodLink M.1.cls index M1.1 ∈ lw_tbl) (hs : Cond.static M1.1 ∈ lw_tbl)
    (hn : As.length = n) (hlen : (lg_sl As).length ≤ M1.2.2.1) (hst : (st.map fun v => v.category).sum ≤ 8) (hj : J g d 0 0 M1 0 (lv_args 0 As) [] h (RJl x h))
    (kk : J g (d + 1) ca sa M (pc + 3) lv (.long x :: st) h Q) : J g (d + 1) ca sa M pc lv (As.reverse ++ st) h Q :=
  J_callS hd hM hl hs hn hlen hst (fun E h' q => by cases q.1) hj (Nat.le_of_eq (Nat.zero_add _)) (Nat.le_of_eq (Nat.zero_add _)) (fun v h' q => by obtain ⟨q1, q2⟩ := q; cases q1; subst q2; exact kk)
theorem J_max {index : Nat} {x y : Int32} (hd : decode M.2.1 pc = .ok (.invokestatic index, 3)) (hl : Cond.methodLink M.1.cls index Lib.Math.max.name ∈ lw_tbl) (hst : (st.map fun v => v.category).sum ≤ 8) (k : J g d ca sa M (pc + 3) lv (.int (if x < y then y else x) :: st) h Q) : J g d ca sa M pc lv (.int y :: .int x :: st) h Q := by
  intro hg p e R s m args below meth c H locs cells slots mc ms ls C
  have hr := C.2.2.2.1
  exact va_mmax C.1.1 C.1.2.1 (by rw [C.1.2.2.1]; exact C.2.2.2.2.1.symm) C.1.2.2.2.2.2.2.1 (wd hg C.2.1.1 hl (Or.inl rfl) args) (wd hg C.2.1.1 (show Cond.static Lib.Math.max.name ∈ lw_tbl from q2_81) (Or.inl rfl) args) (wd hg C.2.1.1 q1_11 (Or.inl rfl) args) (wd hg C.2.1.1 (show Cond.code Lib.Math.max.name Lib.Math.max.code 2 (some .int) ∈ lw_tbl from q2_82) (Or.inl rfl) args) (by omega) (by rw [catj]; omega) (by omega) (by omega) hd (k hg p e R s m args below meth c H locs cells slots mc ms ls C)
theorem J_iaddN {a b : Nat} (hd : decode M.2.1 pc = .ok (.iadd, 1)) (k : J g d ca sa M (pc + 1) lv (.int (nI (a + b)) :: st) h Q) : J g d ca sa M pc lv (.int (nI b) :: .int (nI a) :: st) h Q := J_iadd hd (by rw [nI_add]; exact k)
theorem J_isubN {a b : Nat} (hd : decode M.2.1 pc = .ok (.isub, 1)) (hle : b ≤ a) (k : J g d ca sa M (pc + 1) lv (.int (nI (a - b)) :: st) h Q) : J g d ca sa M pc lv (.int (nI b) :: .int (nI a) :: st) h Q := J_isub hd (by rw [pk_sub hle]; exact k)
theorem J_imulN {a b : Nat} (hd : decode M.2.1 pc = .ok (.imul, 1)) (k : J g d ca sa M (pc + 1) lv (.int (nI (a * b)) :: st) h Q) : J g d ca sa M pc lv (.int (nI b) :: .int (nI a) :: st) h Q := J_imul hd (by rw [pk_mul]; exact k)
theorem J_iandN {a b : Nat} (hd : decode M.2.1 pc = .ok (.iand, 1)) (k : J g d ca sa M (pc + 1) lv (.int (nI (a &&& b)) :: st) h Q) : J g d ca sa M pc lv (.int (nI b) :: .int (nI a) :: st) h Q := J_iand hd (by rw [andNN]; exact k)
theorem J_iandX {a b : Nat} (hd : decode M.2.1 pc = .ok (.iand, 1)) (k : J g d ca sa M (pc + 1) lv (.int (nI (sdf a b)) :: st) h Q) : J g d ca sa M pc lv (.int (nI b ^^^ (-1)) :: .int (nI a) :: st) h Q := J_iand hd (by rw [andn]; exact k)
theorem J_iorN {a b : Nat} (hd : decode M.2.1 pc = .ok (.ior, 1)) (k : J g d ca sa M (pc + 1) lv (.int (nI (a ||| b)) :: st) h Q) : J g d ca sa M pc lv (.int (nI b) :: .int (nI a) :: st) h Q := J_ior hd (by rw [orNN]; exact k)
theorem J_ixorN {a b : Nat} (hd : decode M.2.1 pc = .ok (.ixor, 1)) (k : J g d ca sa M (pc + 1) lv (.int (nI (a ^^^ b)) :: st) h Q) : J g d ca sa M pc lv (.int (nI b) :: .int (nI a) :: st) h Q := J_ixor hd (by rw [xorNN]; exact k)
theorem J_ishlN {b : Nat} (hd : decode M.2.1 pc = .ok (.ishl, 1)) (hb : b < 31) (k : J g d ca sa M (pc + 1) lv (.int (nI (2 ^ b)) :: st) h Q) : J g d ca sa M pc lv (.int (nI b) :: .int (nI 1) :: st) h Q := J_ishl hd (by rw [shlN hb]; exact k)
theorem J_idivN {a b : Nat} (hd : decode M.2.1 pc = .ok (.idiv, 1)) (ha : a < 2 ^ 31) (h0 : 0 < b) (hb : b < 2 ^ 31) (k : J g d ca sa M (pc + 1) lv (.int (nI (a / b)) :: st) h Q) : J g d ca sa M pc lv (.int (nI b) :: .int (nI a) :: st) h Q := J_idiv hd (nI_ne0 h0 hb) (by rw [pk_div ha h0 hb]; exact k)
theorem J_iremN {a b : Nat} (hd : decode M.2.1 pc = .ok (.irem, 1)) (ha : a < 2 ^ 31) (h0 : 0 < b) (hb : b < 2 ^ 31) (k : J g d ca sa M (pc + 1) lv (.int (nI (a % b)) :: st) h Q) : J g d ca sa M pc lv (.int (nI b) :: .int (nI a) :: st) h Q := J_irem hd (nI_ne0 h0 hb) (by rw [pk_rem ha h0 hb]; exact k)
theorem J_i2lN {a : Nat} (hd : decode M.2.1 pc = .ok (.i2l, 1)) (ha : a < 2 ^ 31) (k : J g d ca sa M (pc + 1) lv (.long (lN a) :: st) h Q) : J g d ca sa M pc lv (.int (nI a) :: st) h Q := J_i2l hd (by rw [nI_l ha]; exact k)
theorem J_l2iN {a : Nat} (hd : decode M.2.1 pc = .ok (.l2i, 1)) (k : J g d ca sa M (pc + 1) lv (.int (nI a) :: st) h Q) : J g d ca sa M pc lv (.long (lN a) :: st) h Q := J_l2i hd (by rw [lN_i]; exact k)
theorem J_laddN {a b : Nat} (hd : decode M.2.1 pc = .ok (.ladd, 1)) (k : J g d ca sa M (pc + 1) lv (.long (lN (a + b)) :: st) h Q) : J g d ca sa M pc lv (.long (lN b) :: .long (lN a) :: st) h Q := J_ladd hd (by rw [lN_add]; exact k)
theorem J_lsubN {a b : Nat} (hd : decode M.2.1 pc = .ok (.lsub, 1)) (hle : b ≤ a) (k : J g d ca sa M (pc + 1) lv (.long (lN (a - b)) :: st) h Q) : J g d ca sa M pc lv (.long (lN b) :: .long (lN a) :: st) h Q := J_lsub hd (by rw [lN_sub hle]; exact k)
theorem J_lmulN {a b : Nat} (hd : decode M.2.1 pc = .ok (.lmul, 1)) (k : J g d ca sa M (pc + 1) lv (.long (lN (a * b)) :: st) h Q) : J g d ca sa M pc lv (.long (lN b) :: .long (lN a) :: st) h Q := J_lmul hd (by rw [lN_mul]; exact k)
theorem lN_ne0 {b : Nat} (h0 : 0 < b) (hb : b < 2 ^ 63) : ¬ lN b = 0 := by
  intro h
  have h1 : lN b = lN 0 := h
  have := (pk_lEQ hb (by omega)).mp h1
  omega
theorem J_ldivN {a b : Nat} (hd : decode M.2.1 pc = .ok (.ldiv, 1)) (ha : a < 2 ^ 63) (h0 : 0 < b) (hb : b < 2 ^ 63) (k : J g d ca sa M (pc + 1) lv (.long (lN (a / b)) :: st) h Q) : J g d ca sa M pc lv (.long (lN b) :: .long (lN a) :: st) h Q := J_ldiv hd (lN_ne0 h0 hb) (by rw [pk_lDiv ha h0 hb]; exact k)
theorem J_lremN {a b : Nat} (hd : decode M.2.1 pc = .ok (.lrem, 1)) (ha : a < 2 ^ 63) (h0 : 0 < b) (hb : b < 2 ^ 63) (k : J g d ca sa M (pc + 1) lv (.long (lN (a % b)) :: st) h Q) : J g d ca sa M pc lv (.long (lN b) :: .long (lN a) :: st) h Q := J_lrem hd (lN_ne0 h0 hb) (by rw [pk_lRem ha h0 hb]; exact k)
theorem J_icmp_geN {a b : Nat} {off : Int} {tgt : Nat} (hd : decode M.2.1 pc = .ok (.if_icmp .ge off, 3)) (ht : (pc : Int) + off = (tgt : Int)) (ha : a < 2 ^ 31) (hb : b < 2 ^ 31) (kt : b ≤ a → J g d ca sa M tgt lv st h Q) (kf : a < b → J g d ca sa M (pc + 3) lv st h Q) : J g d ca sa M pc lv (.int (nI b) :: .int (nI a) :: st) h Q := J_icmp_ge hd ht (fun q => kt ((nI_leI hb ha).mp q)) (fun q => kf (Nat.not_le.mp fun z => q ((nI_leI hb ha).mpr z)))
theorem J_icmp_gtN {a b : Nat} {off : Int} {tgt : Nat} (hd : decode M.2.1 pc = .ok (.if_icmp .gt off, 3)) (ht : (pc : Int) + off = (tgt : Int)) (ha : a < 2 ^ 31) (hb : b < 2 ^ 31) (kt : b < a → J g d ca sa M tgt lv st h Q) (kf : a ≤ b → J g d ca sa M (pc + 3) lv st h Q) : J g d ca sa M pc lv (.int (nI b) :: .int (nI a) :: st) h Q := J_icmp_gt hd ht (fun q => kt ((nI_ltI hb ha).mp q)) (fun q => kf (Nat.not_lt.mp fun z => q ((nI_ltI hb ha).mpr z)))
theorem J_icmp_leN {a b : Nat} {off : Int} {tgt : Nat} (hd : decode M.2.1 pc = .ok (.if_icmp .le off, 3)) (ht : (pc : Int) + off = (tgt : Int)) (ha : a < 2 ^ 31) (hb : b < 2 ^ 31) (kt : a ≤ b → J g d ca sa M tgt lv st h Q) (kf : b < a → J g d ca sa M (pc + 3) lv st h Q) : J g d ca sa M pc lv (.int (nI b) :: .int (nI a) :: st) h Q := J_icmp_le hd ht (fun q => kt ((nI_leI ha hb).mp q)) (fun q => kf (Nat.not_le.mp fun z => q ((nI_leI ha hb).mpr z)))
theorem J_icmp_ltN {a b : Nat} {off : Int} {tgt : Nat} (hd : decode M.2.1 pc = .ok (.if_icmp .lt off, 3)) (ht : (pc : Int) + off = (tgt : Int)) (ha : a < 2 ^ 31) (hb : b < 2 ^ 31) (kt : a < b → J g d ca sa M tgt lv st h Q) (kf : b ≤ a → J g d ca sa M (pc + 3) lv st h Q) : J g d ca sa M pc lv (.int (nI b) :: .int (nI a) :: st) h Q := J_icmp_lt hd ht (fun q => kt ((nI_ltI ha hb).mp q)) (fun q => kf (Nat.not_lt.mp fun z => q ((nI_ltI ha hb).mpr z)))
theorem J_icmp_eqN {a b : Nat} {off : Int} {tgt : Nat} (hd : decode M.2.1 pc = .ok (.if_icmp .eq off, 3)) (ht : (pc : Int) + off = (tgt : Int)) (ha : a < 2 ^ 31) (hb : b < 2 ^ 31) (kt : a = b → J g d ca sa M tgt lv st h Q) (kf : a ≠ b → J g d ca sa M (pc + 3) lv st h Q) : J g d ca sa M pc lv (.int (nI b) :: .int (nI a) :: st) h Q := J_icmp_eq hd ht (fun q => kt ((nI_eq ha hb).mp q)) (fun q => kf (fun z => q ((nI_eq ha hb).mpr z)))
theorem J_icmp_neN {a b : Nat} {off : Int} {tgt : Nat} (hd : decode M.2.1 pc = .ok (.if_icmp .ne off, 3)) (ht : (pc : Int) + off = (tgt : Int)) (ha : a < 2 ^ 31) (hb : b < 2 ^ 31) (kt : a ≠ b → J g d ca sa M tgt lv st h Q) (kf : a = b → J g d ca sa M (pc + 3) lv st h Q) : J g d ca sa M pc lv (.int (nI b) :: .int (nI a) :: st) h Q := J_icmp_ne hd ht (fun q => kt (fun z => q ((nI_eq ha hb).mpr z))) (fun q => kf ((nI_eq ha hb).mp q))
theorem J_if_eqN {a : Nat} {off : Int} {tgt : Nat} (hd : decode M.2.1 pc = .ok (.ifCond .eq off, 3)) (ht : (pc : Int) + off = (tgt : Int)) (ha : a < 2 ^ 31) (kt : a = 0 → J g d ca sa M tgt lv st h Q) (kf : a ≠ 0 → J g d ca sa M (pc + 3) lv st h Q) : J g d ca sa M pc lv (.int (nI a) :: st) h Q := J_if_eq hd ht (fun q => kt ((nI_eq (b := 0) ha (by decide)).mp q)) (fun q => kf (fun z => q ((nI_eq (b := 0) ha (by decide)).mpr z)))
theorem J_if_neN {a : Nat} {off : Int} {tgt : Nat} (hd : decode M.2.1 pc = .ok (.ifCond .ne off, 3)) (ht : (pc : Int) + off = (tgt : Int)) (ha : a < 2 ^ 31) (kt : a ≠ 0 → J g d ca sa M tgt lv st h Q) (kf : a = 0 → J g d ca sa M (pc + 3) lv st h Q) : J g d ca sa M pc lv (.int (nI a) :: st) h Q := J_if_ne hd ht (fun q => kt (fun z => q ((nI_eq (b := 0) ha (by decide)).mpr z))) (fun q => kf ((nI_eq (b := 0) ha (by decide)).mp q))
theorem bI_0 (b : Bool) : bI b = 0 ↔ b = false := by cases b <;> decide
theorem J_if_eqB {b : Bool} {off : Int} {tgt : Nat} (hd : decode M.2.1 pc = .ok (.ifCond .eq off, 3)) (ht : (pc : Int) + off = (tgt : Int)) (kt : b = false → J g d ca sa M tgt lv st h Q) (kf : b = true → J g d ca sa M (pc + 3) lv st h Q) : J g d ca sa M pc lv (.int (bI b) :: st) h Q := J_if_eq hd ht (fun q => kt ((bI_0 b).mp q)) (fun q => kf (by cases b <;> first | rfl | exact absurd ((bI_0 false).mpr rfl) q))
theorem J_if_neB {b : Bool} {off : Int} {tgt : Nat} (hd : decode M.2.1 pc = .ok (.ifCond .ne off, 3)) (ht : (pc : Int) + off = (tgt : Int)) (kt : b = true → J g d ca sa M tgt lv st h Q) (kf : b = false → J g d ca sa M (pc + 3) lv st h Q) : J g d ca sa M pc lv (.int (bI b) :: st) h Q := J_if_ne hd ht (fun q => kt (by cases b <;> first | rfl | exact absurd ((bI_0 false).mpr rfl) q)) (fun q => kf ((bI_0 b).mp q))
/-- -1 or a number -/
def enc (c : Option Nat) : Int32 := match c with
  | none => -1
  | some n => nI n
theorem J_if_ltE {c : Option Nat} {off : Int} {tgt : Nat} (hd : decode M.2.1 pc = .ok (.ifCond .lt off, 3)) (ht : (pc : Int) + off = (tgt : Int)) (hc : ∀ n, c = some n → n < 2 ^ 31) (kt : c = none → J g d ca sa M tgt lv st h Q) (kf : ∀ n, c = some n → J g d ca sa M (pc + 3) lv st h Q) : J g d ca sa M pc lv (.int (enc c) :: st) h Q := by
  cases c with
  | none => exact J_if_lt hd ht (fun _ => kt rfl) (fun q => absurd (by decide) q)
  | some n => exact J_if_lt hd ht (fun q => absurd q (nI_pos (hc n rfl))) (fun _ => kf n rfl)
theorem J_if_geE {c : Option Nat} {off : Int} {tgt : Nat} (hd : decode M.2.1 pc = .ok (.ifCond .ge off, 3)) (ht : (pc : Int) + off = (tgt : Int)) (hc : ∀ n, c = some n → n < 2 ^ 31) (kt : ∀ n, c = some n → J g d ca sa M tgt lv st h Q) (kf : c = none → J g d ca sa M (pc + 3) lv st h Q) : J g d ca sa M pc lv (.int (enc c) :: st) h Q := by
  cases c with
  | none => exact J_if_ge hd ht (fun q => absurd q (by decide)) (fun _ => kf rfl)
  | some n => exact J_if_ge hd ht (fun _ => kt n rfl) (fun q => absurd (nI_pos' (hc n rfl)) q)
theorem pick_em {g : GT} {l : List (Nat × Value)} {ks : List Nat} : lv_pick (l.map (fun q => (q.1, em g q.2))) ks = (lv_pick l ks).map (fun q => (q.1, em g q.2)) := by
  unfold lv_pick
  rw [List.map_filterMap]
  congr 1
  funext k
  rw [List.getElem?_map]
theorem J_sub (ks : List Nat) (hl : lv_pick lv ks = lv') (k : J g d ca sa M pc lv' st h Q) : J g d ca sa M pc lv st h Q := by
  intro hg p e R s m args below meth c H locs cells slots mc ms ls C
  subst hl
  exact k hg p e R s m args below meth c H locs cells slots mc ms ls (C.lv (by rw [← pick_em]; exact lv_sub C.2.2.2.2 ks rfl))
theorem lgc_le {a b : Nat} (ha : a < 2 ^ 63) (hb : b < 2 ^ 63) : lg_cmp (lN a) (lN b) ≤ 0 ↔ a ≤ b := by
  have h1 := pk_lLT hb ha
  have h2 := pk_lEQ ha hb
  unfold lg_cmp
  by_cases h3 : lN a > lN b
  · rw [if_pos h3]
    have : b < a := h1.mp h3
    constructor
    · intro q
      exact absurd q (by decide)
    · intro q
      omega
  · rw [if_neg h3]
    have h4 : ¬ b < a := fun z => h3 (h1.mpr z)
    constructor
    · intro _
      omega
    · intro _
      split <;> decide
theorem J_heq {h1 h2 : MH} (e : h2 = h1) (k : J g d ca sa M pc lv st h2 Q) : J g d ca sa M pc lv st h1 Q := by subst e; exact k
theorem nI_max {a b : Nat} (ha : a < 2 ^ 31) (hb : b < 2 ^ 31) : (if nI a < nI b then nI b else nI a) = nI (max a b) := by
  by_cases hh : a < b
  · rw [if_pos ((nI_ltI ha hb).mpr hh), Nat.max_eq_right (by omega)]
  · rw [if_neg (fun z => hh ((nI_ltI ha hb).mp z)), Nat.max_eq_left (by omega)]
theorem nar_b (b : Bool) : narrow .boolean (.int (bI b)) = .int (bI b) := by cases b <;> decide
end JI
