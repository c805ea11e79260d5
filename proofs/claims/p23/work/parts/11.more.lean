-- constants, Object's constructor, arraycopy, new int[3][20], throws, catches
theorem wdF {g : GT} (hg : OkG g) {s : State} (hW : (g_s g).WarmedH s.vm) {w : Cond} (hw : w ∈ lw_tbl) (h1 : w.onTables = true) (h2 : w.keepsFace = true) (args : Array Value) : w.before args s = true :=
  va_tabs (u := (g_s g).setVm s.vm) (U := s) h1 rfl (Cond.before_shiftedFace (State.Shifted.of_warmed hW) w h2 (hg.2.1 w hw))
section JM
variable {g : GT} {d ca sa : Nat} {M : MT} {pc : Nat} {lv lv' : List (Nat × Value)} {st : List Value} {h : MH} {Q Q' : RT → MH → Prop}
theorem J_ldcw {index : Nat} {v : Int32} (hd : decode M.2.1 pc = .ok (.ldc_w index, 3)) (hw : Cond.constant M.1.cls index v ∈ lw_tbl) (k : J g d ca sa M (pc + 3) lv (.int v :: st) h Q) : J g d ca sa M pc lv st h Q := by
  intro hg p e R s m args below meth c H locs cells slots mc ms ls C
  exact lv_ldcw C.1.1 C.1.2.1 C.1.2.2.2.2.2.2.1 (wd hg C.2.1.1 hw (Or.inl rfl) args) hd (k hg p e R s m args below meth c H locs cells slots mc ms ls C)
theorem J_ldc2 {index : Nat} {v : Int64} (hd : decode M.2.1 pc = .ok (.ldc2_w index, 3)) (hw : Cond.constantLong M.1.cls index v ∈ lw_tbl) (k : J g d ca sa M (pc + 3) lv (.long v :: st) h Q) : J g d ca sa M pc lv st h Q := by
  intro hg p e R s m args below meth c H locs cells slots mc ms ls C
  exact lv_ldc2 C.1.1 C.1.2.1 C.1.2.2.2.2.2.2.1 (wd hg C.2.1.1 hw (Or.inl rfl) args) hd (k hg p e R s m args below meth c H locs cells slots mc ms ls C)
theorem J_obj {index a : Nat} (hd : decode M.2.1 pc = .ok (.invokespecial index, 3)) (hw : Cond.methodLink M.1.cls index objectInit ∈ lw_tbl) (hst : (st.map fun v => v.category).sum ≤ 8) (k : J g d ca sa M (pc + 3) lv st h Q) : J g d ca sa M pc lv (.ref a :: st) h Q := by
  intro hg p e R s m args below meth c H locs cells slots mc ms ls C
  have hr := C.2.2.2.1
  exact W.objInit (a := ad g a) (rest := st.map (em g)) C.1.1 C.1.2.1 C.1.2.2.2.2.2.2.1 (wd hg C.2.1.1 hw (Or.inl rfl) args) (wd hg C.2.1.1 q1_51 (Or.inl rfl) args) (wd hg C.2.1.1 q1_52 (Or.inl rfl) args) rfl (by rw [C.1.2.2.1]; exact C.2.2.2.2.1) rfl hd (by omega) (by rw [catj]; show 2 * 0 + _ + 12 ≤ _; omega) (k hg p e R s m args below meth c H locs cells slots mc ms ls C)
end JM
section JT
variable {g : GT} {d ca sa : Nat} {M : MT} {pc : Nat} {lv lv' : List (Nat × Value)} {st : List Value} {h : MH} {Q Q' : RT → MH → Prop}
end JT
