-- the reference: rules with new cells and budgets; its beans; sets
section
variable {g : GT} {d ca sa : Nat} {M : MT} {pc : Nat} {lv : List (Nat × Value)} {st : List Value} {h : MH} {Q : RT → MH → Prop}
theorem ha_s {h h1 : MH} {A z : Nat} {c : MC} (e : h1 = (z, hset h.2 A c)) : h1.2 A = some c := by
  rw [e]
  exact hset_s
theorem ha_n {h h1 : MH} {A j z : Nat} {c : MC} (e : h1 = (z, hset h.2 A c)) (hj : j ≠ A) : h1.2 j = h.2 j := by
  rw [e]
  exact hset_n hj
theorem J_newIA {n ca' sa' A : Nat} {x : Int32} {h' : MH} (hd : decode M.2.1 pc = .ok (.newarray .int, 2)) (hx : x = nI n) (hn : n < 100000) (h1 : ca' + 1 ≤ ca) (h2 : sa' + n ≤ sa) (eA : A = h.1) (e : h' = (A + 1, hset h.2 A (aI n (fun _ => 0)))) (kk : J g d ca' sa' M (pc + 2) lv (.ref A :: st) h' Q) : J g d ca sa M pc lv (.int x :: st) h Q := by
  subst eA
  subst e
  exact J_newI hd hx hn h1 h2 kk
theorem J_cVB {M1 : MT} {index n a ci ca1 sa1 ca2 sa2 : Nat} {fs As : List Value} {v : Option Value} {P : MH → Prop} {T : u_T} {N : Nat} (hd : decode M.2.1 pc = .ok (.invokevirtual index, 3)) (hM : MOK M1 n) (hl : Cond.methodLink M.1.cls index M1.1 ∈ lw_tbl) (hi : Cond.instanceMethod M1.1 ∈ lw_tbl) (hs : Cond.selects M1.1.cls M1.1 M1.1 ∈ lw_tbl)
    (hc : vwCl[ci]? = some (M1.1.cls, T, N)) (ha : h.2 a = some (.inr (ci, fs))) (hn : As.length = n) (hlen : (lg_sl (.ref a :: As)).length ≤ M1.2.2.1) (hst : (st.map fun v => v.category).sum ≤ 8) (hj : J g d ca1 sa1 M1 0 (lv_args 0 (.ref a :: As)) [] h (fun r h' => r = .inl v ∧ P h')) (h1 : ca1 + ca2 ≤ ca) (h2 : sa1 + sa2 ≤ sa)
    (kk : ∀ h', P h' → J g (d + 1) ca2 sa2 M (pc + 3) lv (v.toList ++ st) h' Q) : J g (d + 1) ca sa M pc lv (As.reverse ++ .ref a :: st) h Q :=
  J_callV hd hM hl hi hs hc ha hn hlen hst (fun E h' q => by cases q.1) hj h1 h2 (fun v h' q => by obtain ⟨q1, q2⟩ := q; cases q1; exact kk h' q2)
theorem J_cSB {M1 : MT} {index n ca1 sa1 ca2 sa2 : Nat} {As : List Value} {v : Option Value} {P : MH → Prop} (hd : decode M.2.1 pc = .ok (.invokestatic index, 3)) (hM : MOK M1 n) (hl : Cond.methodLink M.1.cls index M1.1 ∈ lw_tbl) (hs : Cond.static M1.1 ∈ lw_tbl)
    (hn : As.length = n) (hlen : (lg_sl As).length ≤ M1.2.2.1) (hst : (st.map fun v => v.category).sum ≤ 8) (hj : J g d ca1 sa1 M1 0 (lv_args 0 As) [] h (fun r h' => r = .inl v ∧ P h')) (h1 : ca1 + ca2 ≤ ca) (h2 : sa1 + sa2 ≤ sa)
    (kk : ∀ h', P h' → J g (d + 1) ca2 sa2 M (pc + 3) lv (v.toList ++ st) h' Q) : J g (d + 1) ca sa M pc lv (As.reverse ++ st) h Q :=
  J_callS hd hM hl hs hn hlen hst (fun E h' q => by cases q.1) hj h1 h2 (fun v h' q => by obtain ⟨q1, q2⟩ := q; cases q1; exact kk h' q2)
end
