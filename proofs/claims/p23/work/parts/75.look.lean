-- the law's body: the look over all trees; its loop; its start
set_option maxHeartbeats 2000000 in
set_option maxRecDepth 20000 in
theorem l_nodes {g : GT} {d n T : Nat} {h : MH} {σ : ST} {j S N : Nat} (hL : g_L g ≤ 260) (hn : n < 16) (hj : j < T) (hS : S ≤ 1000) (I : LI h σ T) (hN : nN 5 (σ.2.2.1 j) = N) : ∀ (k p : Nat), p + k = N → J g (d + 7) 0 0 mL_law 854 [(12, .int (nI (j))), (11, .int (nI (S))), (0, .ref (0)), (1, .ref (1)), (2, .int (nI (T))), (3, .int (nI (n)))] [] h QL → J g (d + 7) 0 0 mL_law 672 [(14, .int (nI (p))), (13, .int (nI (N))), (12, .int (nI (j))), (11, .int (nI (S))), (0, .ref (0)), (1, .ref (1)), (2, .int (nI (T))), (3, .int (nI (n)))] [] h QL := by
  obtain ⟨fs1, r1⟩ := LI_1 I
  obtain ⟨hW, ok, hn20, hT5, hn3⟩ := LI_b I
  obtain ⟨o1, o2, o3, o4⟩ := id ok
  obtain ⟨ok1, ok2, ok3, ok4⟩ := LI_tr I hj
  intro k
  induction k with
  | zero =>
    intro p hp kk
    refine J_iload (i := 14) (pc := 672) dL_law_672 rfl ?_
    refine J_iload (i := 13) (pc := 674) dL_law_674 rfl ?_
    refine J_icmp_geN (tgt := 854) (pc := 676) dL_law_676 (by decide) (by omega) (by omega) (fun c676 => ?_) (fun c676 => by exfalso; first | omega | simp_all)
    refine J_sub (lv' := [(12, .int (nI (j))), (11, .int (nI (S))), (0, .ref (0)), (1, .ref (1)), (2, .int (nI (T))), (3, .int (nI (n)))]) [2, 3, 4, 5, 6, 7] rfl ?_
    exact kk
  | succ k ih =>
    intro p hp kk
    rcases NF_all 5 0 (σ.2.2.1 j) p ok3 (by omega) with ⟨e1, e2⟩ | ⟨c, z, e1, e2, e3, e4, e5, e6, e7⟩
    · skip
      refine J_iload (i := 14) (pc := 672) dL_law_672 rfl ?_
      refine J_iload (i := 13) (pc := 674) dL_law_674 rfl ?_
      refine J_icmp_geN (tgt := 854) (pc := 676) dL_law_676 (by decide) (by omega) (by omega) (fun c676 => by exfalso; first | omega | simp_all) (fun c676 => ?_)
      refine J_aload_n (i := 1) (pc := 679) dL_law_679 rfl rfl ?_
      refine J_iload (i := 12) (pc := 680) dL_law_680 rfl ?_
      refine J_iload (i := 14) (pc := 682) dL_law_682 rfl ?_
      refine J_iconst (v := nI (5)) (pc := 684) dL_law_684 rfl ?_
      refine J_cVi (st := []) (As := [.int (nI (j)), .int (nI (p)), .int (nI (5))]) (pc := 685) dL_law_685 okX2_node q2_23 q2_24 q2_25 (rfl : vwCl[2]? = some _) r1 rfl (Nat.le_of_ble_eq_true rfl) (Nat.le_of_ble_eq_true rfl) (i_node5L (d := d + 4) I (by omega) (by omega) e1) ?_
      refine J_istore (i := 15) (lv' := [(15, .int (-1)), (14, .int (nI (p))), (13, .int (nI (N))), (12, .int (nI (j))), (11, .int (nI (S))), (0, .ref (0)), (1, .ref (1)), (2, .int (nI (T))), (3, .int (nI (n)))]) (pc := 688) dL_law_688 (by decide) rfl ?_
      refine J_aload_n (i := 1) (pc := 690) dL_law_690 rfl rfl ?_
      refine J_iload (i := 12) (pc := 691) dL_law_691 rfl ?_
      refine J_iload (i := 14) (pc := 693) dL_law_693 rfl ?_
      refine J_bipush (v := nI (6)) (pc := 695) dL_law_695 rfl ?_
      refine J_cVi (st := []) (As := [.int (nI (j)), .int (nI (p)), .int (nI (6))]) (pc := 697) dL_law_697 okX2_node q2_23 q2_24 q2_25 (rfl : vwCl[2]? = some _) r1 rfl (Nat.le_of_ble_eq_true rfl) (Nat.le_of_ble_eq_true rfl) (i_node6L (d := d + 4) I (by omega) (by omega) e2) ?_
      refine J_istore (i := 16) (lv' := [(16, .int (-1)), (15, .int (-1)), (14, .int (nI (p))), (13, .int (nI (N))), (12, .int (nI (j))), (11, .int (nI (S))), (0, .ref (0)), (1, .ref (1)), (2, .int (nI (T))), (3, .int (nI (n)))]) (pc := 700) dL_law_700 (by decide) rfl ?_
      refine J_iload (i := 15) (pc := 702) dL_law_702 rfl ?_
      refine J_if_ge (tgt := 711) (pc := 704) dL_law_704 (by decide) (fun c704 => absurd c704 (by decide)) (fun c704 => ?_)
      refine J_iconst (v := nI (1)) (pc := 707) dL_law_707 rfl ?_
      refine J_goto (tgt := 712) (pc := 708) dL_law_708 (by decide) ?_
      refine J_aload_n (i := 1) (pc := 712) dL_law_712 rfl rfl ?_
      refine J_iload (i := 12) (pc := 713) dL_law_713 rfl ?_
      refine J_iload (i := 14) (pc := 715) dL_law_715 rfl ?_
      refine J_iconst (v := nI (0)) (pc := 717) dL_law_717 rfl ?_
      refine J_cVi (st := [.int (nI (1))]) (As := [.int (nI (j)), .int (nI (p)), .int (nI (0))]) (pc := 718) dL_law_718 okX2_node q2_23 q2_24 q2_25 (rfl : vwCl[2]? = some _) r1 rfl (Nat.le_of_ble_eq_true rfl) (Nat.le_of_ble_eq_true rfl) (i_node0L (d := d + 4) I (by omega) (by omega) e1) ?_
      refine J_if_ge (tgt := 728) (pc := 721) dL_law_721 (by decide) (fun c721 => absurd c721 (by decide)) (fun c721 => ?_)
      refine J_iconst (v := nI (1)) (pc := 724) dL_law_724 rfl ?_
      refine J_goto (tgt := 729) (pc := 725) dL_law_725 (by decide) ?_
      refine J_icmp_neN (tgt := 755) (pc := 729) dL_law_729 (by decide) (by omega) (by omega) (fun c729 => by exfalso; first | omega | simp_all) (fun c729 => ?_)
      refine J_iload (i := 15) (pc := 732) dL_law_732 rfl ?_
      refine J_if_ge (tgt := 741) (pc := 734) dL_law_734 (by decide) (fun c734 => absurd c734 (by decide)) (fun c734 => ?_)
      refine J_iconst (v := nI (1)) (pc := 737) dL_law_737 rfl ?_
      refine J_goto (tgt := 742) (pc := 738) dL_law_738 (by decide) ?_
      refine J_iload (i := 16) (pc := 742) dL_law_742 rfl ?_
      refine J_if_ge (tgt := 751) (pc := 744) dL_law_744 (by decide) (fun c744 => absurd c744 (by decide)) (fun c744 => ?_)
      refine J_iconst (v := nI (1)) (pc := 747) dL_law_747 rfl ?_
      refine J_goto (tgt := 752) (pc := 748) dL_law_748 (by decide) ?_
      refine J_icmp_eqN (tgt := 757) (pc := 752) dL_law_752 (by decide) (by omega) (by omega) (fun c752 => ?_) (fun c752 => by exfalso; first | omega | simp_all)
      refine J_iload (i := 15) (pc := 757) dL_law_757 rfl ?_
      refine J_if_lt (tgt := 848) (pc := 759) dL_law_759 (by decide) (fun c759 => ?_) (fun c759 => absurd c759 (fun q => q (by decide)))
      refine J_iinc (i := 14) (v := nI (p + 1)) (lv' := [(14, .int (nI (p + 1))), (16, .int (-1)), (15, .int (-1)), (13, .int (nI (N))), (12, .int (nI (j))), (11, .int (nI (S))), (0, .ref (0)), (1, .ref (1)), (2, .int (nI (T))), (3, .int (nI (n)))]) (pc := 848) dL_law_848 rfl (nI_add (p) 1) (by decide) rfl ?_
      refine J_goto (tgt := 672) (pc := 851) dL_law_851 (by decide) ?_
      refine J_sub (lv' := [(14, .int (nI (p + 1))), (13, .int (nI (N))), (12, .int (nI (j))), (11, .int (nI (S))), (0, .ref (0)), (1, .ref (1)), (2, .int (nI (T))), (3, .int (nI (n)))]) [0, 3, 4, 5, 6, 7, 8, 9] rfl ?_
      exact ih (p + 1) (by omega) kk
    · skip
      obtain ⟨kc, _, km0⟩ := ok_row 5 0 (σ.2.2.1 j) p ok1 (by omega)
      obtain ⟨_, _, km1⟩ := ok_row 5 0 (σ.2.2.1 j) (p + 1) ok1 e3
      obtain ⟨_, _, km2⟩ := ok_row 5 0 (σ.2.2.1 j) z ok1 e4
      have kc9 := kc c e1
      have kd0 := (row_dep 5 0 (σ.2.2.1 j) p (by omega)).2.1
      have kd1 := (row_dep 5 0 (σ.2.2.1 j) (p + 1) e3).2.1
      have kd2 := (row_dep 5 0 (σ.2.2.1 j) z e4).2.1
      obtain ⟨m0, em0⟩ : ∃ y : Nat, y = (rowT 5 0 (σ.2.2.1 j) p).2.2.1 := ⟨_, rfl⟩
      obtain ⟨m1, em1⟩ : ∃ y : Nat, y = (rowT 5 0 (σ.2.2.1 j) (p + 1)).2.2.1 := ⟨_, rfl⟩
      obtain ⟨m2, em2⟩ : ∃ y : Nat, y = (rowT 5 0 (σ.2.2.1 j) z).2.2.1 := ⟨_, rfl⟩
      obtain ⟨d0, ed0⟩ : ∃ y : Nat, y = (rowT 5 0 (σ.2.2.1 j) p).2.2.2 := ⟨_, rfl⟩
      obtain ⟨d1, ed1⟩ : ∃ y : Nat, y = (rowT 5 0 (σ.2.2.1 j) (p + 1)).2.2.2 := ⟨_, rfl⟩
      obtain ⟨d2, ed2⟩ : ∃ y : Nat, y = (rowT 5 0 (σ.2.2.1 j) z).2.2.2 := ⟨_, rfl⟩
      rw [← em0] at km0 e5
      rw [← em1] at km1 e5
      rw [← em2] at km2 e5
      rw [← ed0] at kd0 e6
      rw [← ed1] at kd1 e6 e7
      rw [← ed2] at kd2 e7
      refine J_iload (i := 14) (pc := 672) dL_law_672 rfl ?_
      refine J_iload (i := 13) (pc := 674) dL_law_674 rfl ?_
      refine J_icmp_geN (tgt := 854) (pc := 676) dL_law_676 (by decide) (by omega) (by omega) (fun c676 => by exfalso; first | omega | simp_all) (fun c676 => ?_)
      refine J_aload_n (i := 1) (pc := 679) dL_law_679 rfl rfl ?_
      refine J_iload (i := 12) (pc := 680) dL_law_680 rfl ?_
      refine J_iload (i := 14) (pc := 682) dL_law_682 rfl ?_
      refine J_iconst (v := nI (5)) (pc := 684) dL_law_684 rfl ?_
      refine J_cVi (st := []) (As := [.int (nI (j)), .int (nI (p)), .int (nI (5))]) (pc := 685) dL_law_685 okX2_node q2_23 q2_24 q2_25 (rfl : vwCl[2]? = some _) r1 rfl (Nat.le_of_ble_eq_true rfl) (Nat.le_of_ble_eq_true rfl) (i_node5F (d := d + 4) I (by omega) (by omega) e1) ?_
      refine J_istore (i := 15) (lv' := [(15, .int (nI (p + 1))), (14, .int (nI (p))), (13, .int (nI (N))), (12, .int (nI (j))), (11, .int (nI (S))), (0, .ref (0)), (1, .ref (1)), (2, .int (nI (T))), (3, .int (nI (n)))]) (pc := 688) dL_law_688 (by decide) rfl ?_
      refine J_aload_n (i := 1) (pc := 690) dL_law_690 rfl rfl ?_
      refine J_iload (i := 12) (pc := 691) dL_law_691 rfl ?_
      refine J_iload (i := 14) (pc := 693) dL_law_693 rfl ?_
      refine J_bipush (v := nI (6)) (pc := 695) dL_law_695 rfl ?_
      refine J_cVi (st := []) (As := [.int (nI (j)), .int (nI (p)), .int (nI (6))]) (pc := 697) dL_law_697 okX2_node q2_23 q2_24 q2_25 (rfl : vwCl[2]? = some _) r1 rfl (Nat.le_of_ble_eq_true rfl) (Nat.le_of_ble_eq_true rfl) (i_node6F (d := d + 4) I (by omega) (by omega) e2) ?_
      refine J_istore (i := 16) (lv' := [(16, .int (nI (z))), (15, .int (nI (p + 1))), (14, .int (nI (p))), (13, .int (nI (N))), (12, .int (nI (j))), (11, .int (nI (S))), (0, .ref (0)), (1, .ref (1)), (2, .int (nI (T))), (3, .int (nI (n)))]) (pc := 700) dL_law_700 (by decide) rfl ?_
      refine J_iload (i := 15) (pc := 702) dL_law_702 rfl ?_
      refine J_if_ge (tgt := 711) (pc := 704) dL_law_704 (by decide) (fun c704 => ?_) (fun c704 => absurd c704 (fun q => q (nI_pos' (by omega))))
      refine J_iconst (v := nI (0)) (pc := 711) dL_law_711 rfl ?_
      refine J_aload_n (i := 1) (pc := 712) dL_law_712 rfl rfl ?_
      refine J_iload (i := 12) (pc := 713) dL_law_713 rfl ?_
      refine J_iload (i := 14) (pc := 715) dL_law_715 rfl ?_
      refine J_iconst (v := nI (0)) (pc := 717) dL_law_717 rfl ?_
      refine J_cVi (st := [.int (nI (0))]) (As := [.int (nI (j)), .int (nI (p)), .int (nI (0))]) (pc := 718) dL_law_718 okX2_node q2_23 q2_24 q2_25 (rfl : vwCl[2]? = some _) r1 rfl (Nat.le_of_ble_eq_true rfl) (Nat.le_of_ble_eq_true rfl) (i_node0F (d := d + 4) I (by omega) (by omega) e1) ?_
      refine J_if_ge (tgt := 728) (pc := 721) dL_law_721 (by decide) (fun c721 => ?_) (fun c721 => absurd c721 (fun q => q (nI_pos' (by omega))))
      refine J_iconst (v := nI (0)) (pc := 728) dL_law_728 rfl ?_
      refine J_icmp_neN (tgt := 755) (pc := 729) dL_law_729 (by decide) (by omega) (by omega) (fun c729 => by exfalso; first | omega | simp_all) (fun c729 => ?_)
      refine J_iload (i := 15) (pc := 732) dL_law_732 rfl ?_
      refine J_if_ge (tgt := 741) (pc := 734) dL_law_734 (by decide) (fun c734 => ?_) (fun c734 => absurd c734 (fun q => q (nI_pos' (by omega))))
      refine J_iconst (v := nI (0)) (pc := 741) dL_law_741 rfl ?_
      refine J_iload (i := 16) (pc := 742) dL_law_742 rfl ?_
      refine J_if_ge (tgt := 751) (pc := 744) dL_law_744 (by decide) (fun c744 => ?_) (fun c744 => absurd c744 (fun q => q (nI_pos' (by omega))))
      refine J_iconst (v := nI (0)) (pc := 751) dL_law_751 rfl ?_
      refine J_icmp_eqN (tgt := 757) (pc := 752) dL_law_752 (by decide) (by omega) (by omega) (fun c752 => ?_) (fun c752 => by exfalso; first | omega | simp_all)
      refine J_iload (i := 15) (pc := 757) dL_law_757 rfl ?_
      refine J_if_lt (tgt := 848) (pc := 759) dL_law_759 (by decide) (fun c759 => absurd c759 (nI_pos (by omega))) (fun c759 => ?_)
      refine J_iload (i := 15) (pc := 762) dL_law_762 rfl ?_
      refine J_iload (i := 14) (pc := 764) dL_law_764 rfl ?_
      refine J_iconst (v := nI (1)) (pc := 766) dL_law_766 rfl ?_
      refine J_iaddN (pc := 767) dL_law_767 ?_
      refine J_icmp_neN (tgt := 846) (pc := 768) dL_law_768 (by decide) (by omega) (by omega) (fun c768 => by exfalso; first | omega | simp_all) (fun c768 => ?_)
      refine J_aload_n (i := 1) (pc := 771) dL_law_771 rfl rfl ?_
      refine J_iload (i := 12) (pc := 772) dL_law_772 rfl ?_
      refine J_iload (i := 15) (pc := 774) dL_law_774 rfl ?_
      refine J_iconst (v := nI (3)) (pc := 776) dL_law_776 rfl ?_
      refine J_cVi (st := []) (As := [.int (nI (j)), .int (nI (p + 1)), .int (nI (3))]) (pc := 777) dL_law_777 okX2_node q2_23 q2_24 q2_25 (rfl : vwCl[2]? = some _) r1 rfl (Nat.le_of_ble_eq_true rfl) (Nat.le_of_ble_eq_true rfl) (i_node3 (d := d + 4) I (by omega) (by omega)) ?_
      rw [← em1]
      refine J_aload_n (i := 1) (pc := 780) dL_law_780 rfl rfl ?_
      refine J_iload (i := 12) (pc := 781) dL_law_781 rfl ?_
      refine J_iload (i := 16) (pc := 783) dL_law_783 rfl ?_
      refine J_iconst (v := nI (3)) (pc := 785) dL_law_785 rfl ?_
      refine J_cVi (st := [.int (nI (m1))]) (As := [.int (nI (j)), .int (nI (z)), .int (nI (3))]) (pc := 786) dL_law_786 okX2_node q2_23 q2_24 q2_25 (rfl : vwCl[2]? = some _) r1 rfl (Nat.le_of_ble_eq_true rfl) (Nat.le_of_ble_eq_true rfl) (i_node3 (d := d + 4) I (by omega) (by omega)) ?_
      rw [← em2]
      refine J_iaddN (pc := 789) dL_law_789 ?_
      refine J_aload_n (i := 1) (pc := 790) dL_law_790 rfl rfl ?_
      refine J_iload (i := 12) (pc := 791) dL_law_791 rfl ?_
      refine J_iload (i := 14) (pc := 793) dL_law_793 rfl ?_
      refine J_iconst (v := nI (3)) (pc := 795) dL_law_795 rfl ?_
      refine J_cVi (st := [.int (nI (m1 + m2))]) (As := [.int (nI (j)), .int (nI (p)), .int (nI (3))]) (pc := 796) dL_law_796 okX2_node q2_23 q2_24 q2_25 (rfl : vwCl[2]? = some _) r1 rfl (Nat.le_of_ble_eq_true rfl) (Nat.le_of_ble_eq_true rfl) (i_node3 (d := d + 4) I (by omega) (by omega)) ?_
      rw [← em0]
      refine J_icmp_neN (tgt := 846) (pc := 799) dL_law_799 (by decide) (by omega) (by omega) (fun c799 => by exfalso; first | omega | simp_all) (fun c799 => ?_)
      refine J_aload_n (i := 1) (pc := 802) dL_law_802 rfl rfl ?_
      refine J_iload (i := 12) (pc := 803) dL_law_803 rfl ?_
      refine J_iload (i := 15) (pc := 805) dL_law_805 rfl ?_
      refine J_iconst (v := nI (4)) (pc := 807) dL_law_807 rfl ?_
      refine J_cVi (st := []) (As := [.int (nI (j)), .int (nI (p + 1)), .int (nI (4))]) (pc := 808) dL_law_808 okX2_node q2_23 q2_24 q2_25 (rfl : vwCl[2]? = some _) r1 rfl (Nat.le_of_ble_eq_true rfl) (Nat.le_of_ble_eq_true rfl) (i_node4 (d := d + 4) I (by omega) (by omega)) ?_
      rw [← ed1]
      refine J_aload_n (i := 1) (pc := 811) dL_law_811 rfl rfl ?_
      refine J_iload (i := 12) (pc := 812) dL_law_812 rfl ?_
      refine J_iload (i := 14) (pc := 814) dL_law_814 rfl ?_
      refine J_iconst (v := nI (4)) (pc := 816) dL_law_816 rfl ?_
      refine J_cVi (st := [.int (nI (d1))]) (As := [.int (nI (j)), .int (nI (p)), .int (nI (4))]) (pc := 817) dL_law_817 okX2_node q2_23 q2_24 q2_25 (rfl : vwCl[2]? = some _) r1 rfl (Nat.le_of_ble_eq_true rfl) (Nat.le_of_ble_eq_true rfl) (i_node4 (d := d + 4) I (by omega) (by omega)) ?_
      rw [← ed0]
      refine J_iconst (v := nI (1)) (pc := 820) dL_law_820 rfl ?_
      refine J_iaddN (pc := 821) dL_law_821 ?_
      refine J_icmp_neN (tgt := 846) (pc := 822) dL_law_822 (by decide) (by omega) (by omega) (fun c822 => by exfalso; first | omega | simp_all) (fun c822 => ?_)
      refine J_aload_n (i := 1) (pc := 825) dL_law_825 rfl rfl ?_
      refine J_iload (i := 12) (pc := 826) dL_law_826 rfl ?_
      refine J_iload (i := 16) (pc := 828) dL_law_828 rfl ?_
      refine J_iconst (v := nI (4)) (pc := 830) dL_law_830 rfl ?_
      refine J_cVi (st := []) (As := [.int (nI (j)), .int (nI (z)), .int (nI (4))]) (pc := 831) dL_law_831 okX2_node q2_23 q2_24 q2_25 (rfl : vwCl[2]? = some _) r1 rfl (Nat.le_of_ble_eq_true rfl) (Nat.le_of_ble_eq_true rfl) (i_node4 (d := d + 4) I (by omega) (by omega)) ?_
      rw [← ed2]
      refine J_aload_n (i := 1) (pc := 834) dL_law_834 rfl rfl ?_
      refine J_iload (i := 12) (pc := 835) dL_law_835 rfl ?_
      refine J_iload (i := 15) (pc := 837) dL_law_837 rfl ?_
      refine J_iconst (v := nI (4)) (pc := 839) dL_law_839 rfl ?_
      refine J_cVi (st := [.int (nI (d2))]) (As := [.int (nI (j)), .int (nI (p + 1)), .int (nI (4))]) (pc := 840) dL_law_840 okX2_node q2_23 q2_24 q2_25 (rfl : vwCl[2]? = some _) r1 rfl (Nat.le_of_ble_eq_true rfl) (Nat.le_of_ble_eq_true rfl) (i_node4 (d := d + 4) I (by omega) (by omega)) ?_
      rw [← ed1]
      refine J_icmp_eqN (tgt := 848) (pc := 843) dL_law_843 (by decide) (by omega) (by omega) (fun c843 => ?_) (fun c843 => by exfalso; first | omega | simp_all)
      refine J_iinc (i := 14) (v := nI (p + 1)) (lv' := [(14, .int (nI (p + 1))), (16, .int (nI (z))), (15, .int (nI (p + 1))), (13, .int (nI (N))), (12, .int (nI (j))), (11, .int (nI (S))), (0, .ref (0)), (1, .ref (1)), (2, .int (nI (T))), (3, .int (nI (n)))]) (pc := 848) dL_law_848 rfl (nI_add (p) 1) (by decide) rfl ?_
      refine J_goto (tgt := 672) (pc := 851) dL_law_851 (by decide) ?_
      refine J_sub (lv' := [(14, .int (nI (p + 1))), (13, .int (nI (N))), (12, .int (nI (j))), (11, .int (nI (S))), (0, .ref (0)), (1, .ref (1)), (2, .int (nI (T))), (3, .int (nI (n)))]) [0, 3, 4, 5, 6, 7, 8, 9] rfl ?_
      exact ih (p + 1) (by omega) kk

set_option maxHeartbeats 2000000 in
set_option maxRecDepth 20000 in
theorem l_trees {g : GT} {d n T : Nat} {σ : ST} (hL : g_L g ≤ 260) (hn : n < 16) : ∀ (k j S : Nat) (h : MH), LI h σ T → j + k = T → S ≤ 39 * j → S + sumP (fun i => nN 5 (σ.2.2.1 i)) k j = sumP (fun i => nN 5 (σ.2.2.1 i)) T 0 → (∀ (h' : MH) (S : Nat), LI h' σ T → S ≤ 195 → S = sumP (fun i => nN 5 (σ.2.2.1 i)) T 0 → J g (d + 7) 0 0 mL_law 860 [(11, .int (nI (S))), (0, .ref (0)), (1, .ref (1)), (2, .int (nI (T))), (3, .int (nI (n)))] [] h' QL) → J g (d + 7) 0 0 mL_law 629 [(12, .int (nI (j))), (11, .int (nI (S))), (0, .ref (0)), (1, .ref (1)), (2, .int (nI (T))), (3, .int (nI (n)))] [] h QL := by
  intro k
  induction k with
  | zero =>
    intro j S h I hk hS hq kk
    obtain ⟨fs1, r1⟩ := LI_1 I
    obtain ⟨hW, ok, hn20, hT5, hn3⟩ := LI_b I
    obtain ⟨o1, o2, o3, o4⟩ := id ok
    refine J_iload (i := 12) (pc := 629) dL_law_629 rfl ?_
    refine J_iload_n (i := 2) (pc := 631) dL_law_631 rfl rfl ?_
    refine J_icmp_geN (tgt := 860) (pc := 632) dL_law_632 (by decide) (by omega) (by omega) (fun c632 => ?_) (fun c632 => by exfalso; first | omega | simp_all)
    refine J_sub (lv' := [(11, .int (nI (S))), (0, .ref (0)), (1, .ref (1)), (2, .int (nI (T))), (3, .int (nI (n)))]) [1, 2, 3, 4, 5] rfl ?_
    exact kk h S I (by omega) (by rw [← hq, sumP]; omega)
  | succ k ih =>
    intro j S h I hk hS hq kk
    have hj : j < T := by omega
    obtain ⟨fs1, r1⟩ := LI_1 I
    obtain ⟨hW, ok, hn20, hT5, hn3⟩ := LI_b I
    obtain ⟨o1, o2, o3, o4⟩ := id ok
    obtain ⟨ok1, ok2, ok3, ok4⟩ := LI_tr I hj
    have hlv := nN_lv 5 (σ.2.2.1 j)
    have hnp := nN_pos 5 (σ.2.2.1 j)
    refine J_iload (i := 12) (pc := 629) dL_law_629 rfl ?_
    refine J_iload_n (i := 2) (pc := 631) dL_law_631 rfl rfl ?_
    refine J_icmp_geN (tgt := 860) (pc := 632) dL_law_632 (by decide) (by omega) (by omega) (fun c632 => by exfalso; first | omega | simp_all) (fun c632 => ?_)
    refine J_aload_n (i := 1) (pc := 635) dL_law_635 rfl rfl ?_
    refine J_iload (i := 12) (pc := 636) dL_law_636 rfl ?_
    refine J_iconst (v := nI (0)) (pc := 638) dL_law_638 rfl ?_
    refine J_cVh (st := []) (As := [.int (nI (j)), .int (nI (0))]) (pc := 639) dL_law_639 okX2_about q2_64 q2_65 q2_66 (rfl : vwCl[2]? = some _) r1 rfl (Nat.le_of_ble_eq_true rfl) (Nat.le_of_ble_eq_true rfl) (i_about0 (d := d + 3) I (by omega)) (fun h_1 q_2 => ?_)
    have I_23 := q_2
    obtain ⟨fs_23, r_23⟩ := LI_1 I_23
    refine J_istore (i := 13) (lv' := [(13, .int (nI (nN 5 (σ.2.2.1 j)))), (12, .int (nI (j))), (11, .int (nI (S))), (0, .ref (0)), (1, .ref (1)), (2, .int (nI (T))), (3, .int (nI (n)))]) (pc := 642) dL_law_642 (by decide) rfl ?_
    refine J_iload (i := 11) (pc := 644) dL_law_644 rfl ?_
    refine J_iload (i := 13) (pc := 646) dL_law_646 rfl ?_
    refine J_iaddN (pc := 648) dL_law_648 ?_
    refine J_istore (i := 11) (lv' := [(11, .int (nI (S + (nN 5 (σ.2.2.1 j))))), (13, .int (nI (nN 5 (σ.2.2.1 j)))), (12, .int (nI (j))), (0, .ref (0)), (1, .ref (1)), (2, .int (nI (T))), (3, .int (nI (n)))]) (pc := 649) dL_law_649 (by decide) rfl ?_
    refine J_iload (i := 13) (pc := 651) dL_law_651 rfl ?_
    refine J_iconst (v := nI (2)) (pc := 653) dL_law_653 rfl ?_
    refine J_aload_n (i := 1) (pc := 654) dL_law_654 rfl rfl ?_
    refine J_iload (i := 12) (pc := 655) dL_law_655 rfl ?_
    refine J_iconst (v := nI (1)) (pc := 657) dL_law_657 rfl ?_
    refine J_cVh (st := [.int (nI (2)), .int (nI (nN 5 (σ.2.2.1 j)))]) (As := [.int (nI (j)), .int (nI (1))]) (pc := 658) dL_law_658 okX2_about q2_64 q2_65 q2_66 (rfl : vwCl[2]? = some _) r_23 rfl (Nat.le_of_ble_eq_true rfl) (Nat.le_of_ble_eq_true rfl) (i_about1 (d := d + 3) I_23 (by omega)) (fun h_3 q_4 => ?_)
    have I_24 := q_4
    obtain ⟨fs_24, r_24⟩ := LI_1 I_24
    refine J_imulN (pc := 661) dL_law_661 ?_
    refine J_iconst (v := nI (1)) (pc := 662) dL_law_662 rfl ?_
    refine J_isubN (pc := 663) dL_law_663 (by omega) ?_
    refine J_icmp_eqN (tgt := 669) (pc := 664) dL_law_664 (by decide) (by omega) (by omega) (fun c664 => ?_) (fun c664 => by exfalso; first | omega | simp_all)
    refine J_iconst (v := nI (0)) (pc := 669) dL_law_669 rfl ?_
    refine J_istore (i := 14) (lv' := [(14, .int (nI (0))), (11, .int (nI (S + (nN 5 (σ.2.2.1 j))))), (13, .int (nI (nN 5 (σ.2.2.1 j)))), (12, .int (nI (j))), (0, .ref (0)), (1, .ref (1)), (2, .int (nI (T))), (3, .int (nI (n)))]) (pc := 670) dL_law_670 (by decide) rfl ?_
    refine J_sub (lv' := [(14, .int (nI (0))), (13, .int (nI (nN 5 (σ.2.2.1 j)))), (12, .int (nI (j))), (11, .int (nI (S + (nN 5 (σ.2.2.1 j))))), (0, .ref (0)), (1, .ref (1)), (2, .int (nI (T))), (3, .int (nI (n)))]) [0, 2, 3, 1, 4, 5, 6, 7] rfl ?_
    refine l_nodes hL hn hj (by omega) I_24 rfl (nN 5 (σ.2.2.1 j)) 0 (by omega) ?_
    refine J_iinc (i := 12) (v := nI (j + 1)) (lv' := [(12, .int (nI (j + 1))), (11, .int (nI (S + nN 5 (σ.2.2.1 j)))), (0, .ref (0)), (1, .ref (1)), (2, .int (nI (T))), (3, .int (nI (n)))]) (pc := 854) dL_law_854 rfl (nI_add (j) 1) (by decide) rfl ?_
    refine J_goto (tgt := 629) (pc := 857) dL_law_857 (by decide) ?_
    refine J_sub (lv' := [(12, .int (nI (j + 1))), (11, .int (nI (S + nN 5 (σ.2.2.1 j)))), (0, .ref (0)), (1, .ref (1)), (2, .int (nI (T))), (3, .int (nI (n)))]) [0, 1, 2, 3, 4, 5] rfl ?_
    exact ih (j + 1) (S + nN 5 (σ.2.2.1 j)) h_3 I_24 (by omega) (by omega) (by rw [← hq, sumP]; omega) kk

set_option maxHeartbeats 2000000 in
set_option maxRecDepth 20000 in
theorem l_end {g : GT} {d n T : Nat} {h : MH} {σ : ST} {S : Nat} (hL : g_L g ≤ 260) (hn : n < 16) (I : LI h σ T) (hS : S ≤ 195) (hq : S = sumP (fun i => nN 5 (σ.2.2.1 i)) T 0) (kk : ∀ h', LI h' σ T → J g (d + 7) 0 0 mL_law 15 [(0, .ref (0)), (1, .ref (1)), (2, .int (nI (T))), (3, .int (nI (n + 1)))] [] h' QL) : J g (d + 7) 0 0 mL_law 860 [(11, .int (nI (S))), (0, .ref (0)), (1, .ref (1)), (2, .int (nI (T))), (3, .int (nI (n)))] [] h QL := by
  obtain ⟨fs1, r1⟩ := LI_1 I
  obtain ⟨hW, ok, hn20, hT5, hn3⟩ := LI_b I
  obtain ⟨o1, o2, o3, o4⟩ := id ok
  have hTT : σ.2.1.1 = T := I.2.2.1
  have mean9 : T ≠ 0 → Op.cmpValue (FP.dcmp (mnS σ) (FP.ddiv (FP.i2d (nI S)) (FP.i2d (nI T)))) .l = 0 := by
    intro q
    have r := mn_p (σ := σ) (S := S) (by omega) (by omega) (by rw [hTT]; exact hq) (by omega)
    rw [hTT] at r
    exact r
  refine J_aload_n (i := 1) (pc := 860) dL_law_860 rfl rfl ?_
  refine J_iconst (v := nI (2)) (pc := 861) dL_law_861 rfl ?_
  refine J_cVi (st := []) (As := [.int (nI (2))]) (pc := 862) dL_law_862 okX2_count q2_109 q2_110 q2_111 (rfl : vwCl[2]? = some _) r1 rfl (Nat.le_of_ble_eq_true rfl) (Nat.le_of_ble_eq_true rfl) (i_count2 (d := d + 2) I ) ?_
  refine J_iload_n (i := 2) (pc := 865) dL_law_865 rfl rfl ?_
  refine J_icmp_neN (tgt := 891) (pc := 866) dL_law_866 (by decide) (by omega) (by omega) (fun c866 => by exfalso; first | omega | simp_all) (fun c866 => ?_)
  refine J_aload_n (i := 1) (pc := 869) dL_law_869 rfl rfl ?_
  refine J_cVg (st := []) (As := []) (pc := 870) dL_law_870 okX2_mean q2_158 q2_159 q2_160 (rfl : vwCl[2]? = some _) r1 rfl (Nat.le_of_ble_eq_true rfl) (Nat.le_of_ble_eq_true rfl) (i_mean (d := d + 5) I ) (fun h_1 q_2 => ?_)
  have I_25 := q_2
  obtain ⟨fs_25, r_25⟩ := LI_1 I_25
  refine J_iload_n (i := 2) (pc := 873) dL_law_873 rfl rfl ?_
  refine J_if_neN (tgt := 881) (pc := 874) dL_law_874 (by decide) (by omega) (fun c874 => ?_) (fun c874 => ?_)
  · skip
    refine J_iload (i := 11) (pc := 881) dL_law_881 rfl ?_
    refine J_i2d (pc := 883) dL_law_883 ?_
    refine J_iload_n (i := 2) (pc := 884) dL_law_884 rfl rfl ?_
    refine J_i2d (pc := 885) dL_law_885 ?_
    refine J_ddiv (pc := 886) dL_law_886 (dd_ok _ (by omega) _ (by omega) (by omega)) ?_
    refine J_dcmp (pc := 887) dL_law_887 ?_
    refine J_if_eq (tgt := 893) (pc := 888) dL_law_888 (by decide) (fun c888 => ?_) (fun c888 => absurd c888 (fun q => q (by first | exact mn_z (by omega) | exact mean9 (by omega))))
    refine J_iinc (i := 3) (v := nI (n + 1)) (lv' := [(3, .int (nI (n + 1))), (11, .int (nI (S))), (0, .ref (0)), (1, .ref (1)), (2, .int (nI (T)))]) (pc := 893) dL_law_893 rfl (nI_add (n) 1) (by decide) rfl ?_
    refine J_goto (tgt := 15) (pc := 896) dL_law_896 (by decide) ?_
    refine J_sub (lv' := [(0, .ref (0)), (1, .ref (1)), (2, .int (nI (T))), (3, .int (nI (n + 1)))]) [2, 3, 4, 0] rfl ?_
    exact kk h_1 I_25
  · skip
    refine J_dconst0 (pc := 877) dL_law_877 ?_
    refine J_goto (tgt := 887) (pc := 878) dL_law_878 (by decide) ?_
    refine J_dcmp (pc := 887) dL_law_887 ?_
    refine J_if_eq (tgt := 893) (pc := 888) dL_law_888 (by decide) (fun c888 => ?_) (fun c888 => absurd c888 (fun q => q (by first | exact mn_z (by omega) | exact mean9 (by omega))))
    refine J_iinc (i := 3) (v := nI (n + 1)) (lv' := [(3, .int (nI (n + 1))), (11, .int (nI (S))), (0, .ref (0)), (1, .ref (1)), (2, .int (nI (T)))]) (pc := 893) dL_law_893 rfl (nI_add (n) 1) (by decide) rfl ?_
    refine J_goto (tgt := 15) (pc := 896) dL_law_896 (by decide) ?_
    refine J_sub (lv' := [(0, .ref (0)), (1, .ref (1)), (2, .int (nI (T))), (3, .int (nI (n + 1)))]) [2, 3, 4, 0] rfl ?_
    exact kk h_1 I_25

set_option maxHeartbeats 2000000 in
set_option maxRecDepth 20000 in
theorem l_C {g : GT} {d n T : Nat} {h : MH} {σ : ST} (hL : g_L g ≤ 260) (hn : n < 16) (I : LI h σ T) (kk : ∀ h', LI h' σ T → J g (d + 7) 0 0 mL_law 15 [(0, .ref (0)), (1, .ref (1)), (2, .int (nI (T))), (3, .int (nI (n + 1)))] [] h' QL) : J g (d + 7) 0 0 mL_law 623 [(0, .ref (0)), (1, .ref (1)), (2, .int (nI (T))), (3, .int (nI (n)))] [] h QL := by
  obtain ⟨fs1, r1⟩ := LI_1 I
  obtain ⟨hW, ok, hn20, hT5, hn3⟩ := LI_b I
  obtain ⟨o1, o2, o3, o4⟩ := id ok
  refine J_iconst (v := nI (0)) (pc := 623) dL_law_623 rfl ?_
  refine J_istore (i := 11) (lv' := [(11, .int (nI (0))), (0, .ref (0)), (1, .ref (1)), (2, .int (nI (T))), (3, .int (nI (n)))]) (pc := 624) dL_law_624 (by decide) rfl ?_
  refine J_iconst (v := nI (0)) (pc := 626) dL_law_626 rfl ?_
  refine J_istore (i := 12) (lv' := [(12, .int (nI (0))), (11, .int (nI (0))), (0, .ref (0)), (1, .ref (1)), (2, .int (nI (T))), (3, .int (nI (n)))]) (pc := 627) dL_law_627 (by decide) rfl ?_
  refine J_sub (lv' := [(12, .int (nI (0))), (11, .int (nI (0))), (0, .ref (0)), (1, .ref (1)), (2, .int (nI (T))), (3, .int (nI (n)))]) [0, 1, 2, 3, 4, 5] rfl ?_
  exact l_trees hL hn T 0 0 h I (Nat.zero_add _) (Nat.zero_le _) (Nat.zero_add _) (fun h' S I' hS hq => l_end hL hn I' hS hq kk)

set_option maxHeartbeats 2000000 in
set_option maxRecDepth 20000 in
theorem l_loop {g : GT} {d : Nat} (hL : g_L g ≤ 260) : ∀ (m n T : Nat) (h : MH) (σ : ST), n + m = 16 → LI h σ T → J g (d + 7) 0 0 mL_law 15 [(0, .ref (0)), (1, .ref (1)), (2, .int (nI (T))), (3, .int (nI (n)))] [] h QL := by
  intro m
  induction m with
  | zero =>
    intro n T h σ hm I
    obtain ⟨fs1, r1⟩ := LI_1 I
    obtain ⟨hW, ok, hn20, hT5, hn3⟩ := LI_b I
    obtain ⟨o1, o2, o3, o4⟩ := id ok
    refine J_iload_n (i := 3) (pc := 15) dL_law_15 rfl rfl ?_
    refine J_bipush (v := nI (16)) (pc := 16) dL_law_16 rfl ?_
    refine J_icmp_geN (tgt := 899) (pc := 18) dL_law_18 (by decide) (by omega) (by omega) (fun c18 => ?_) (fun c18 => by exfalso; first | omega | simp_all)
    refine J_iconst (v := nI (1)) (pc := 899) dL_law_899 rfl ?_
    refine J_iret (ty := .boolean) (pc := 900) dL_law_900 rfl rfl ?_
    exact rfl
  | succ m ih =>
    intro n T h σ hm I
    exact l_A hL (by omega) I (fun h1 σ1 x I1 => l_B hL (by omega) I1 (fun h2 σ2 T2 I2 => l_C hL (by omega) I2 (fun h3 I3 => ih (n + 1) T2 h3 σ2 (by omega) I3)))

set_option maxHeartbeats 2000000 in
set_option maxRecDepth 20000 in
theorem law_start {g : GT} {d : Nat} {h : MH} (hL : g_L g ≤ 260) (hn : h.1 = 1) : J g (d + 7) 72 1814 mL_law 0 [(0, .ref 0)] [] h QL := by
  refine J_aload_n (i := 0) (pc := 0) dL_law_0 rfl rfl ?_
  refine J_cSB (st := []) (As := [.ref (0)]) (v := some (.ref (1))) (ca1 := 72) (sa1 := 1814) (ca2 := 0) (sa2 := 0) (pc := 1) dL_law_1 okL_sorter q2_184 q2_185 rfl (Nat.le_of_ble_eq_true rfl) (Nat.le_of_ble_eq_true rfl) (l_sorter (d := d + 3) hL hn) (by omega) (by omega) (fun h_1 q_2 => ?_)
  obtain ⟨σ, π, hG, h3, h0⟩ := q_2
  have I : LI h_1 σ 0 := ⟨⟨π, hG⟩, h3, h0, fun i hi => absurd hi (Nat.not_lt_zero i)⟩
  refine J_astore_n (i := 1) (lv' := [(1, .ref (1)), (0, .ref (0))]) (pc := 4) dL_law_4 rfl (by decide) rfl ?_
  refine J_aload_n (i := 1) (pc := 5) dL_law_5 rfl rfl ?_
  refine J_ifnonnull (tgt := 11) (pc := 6) dL_law_6 (by decide) ?_
  refine J_iconst (v := nI (0)) (pc := 11) dL_law_11 rfl ?_
  refine J_istore_n (i := 2) (lv' := [(2, .int (nI (0))), (1, .ref (1)), (0, .ref (0))]) (pc := 12) dL_law_12 rfl (by decide) rfl ?_
  refine J_iconst (v := nI (0)) (pc := 13) dL_law_13 rfl ?_
  refine J_istore_n (i := 3) (lv' := [(3, .int (nI (0))), (2, .int (nI (0))), (1, .ref (1)), (0, .ref (0))]) (pc := 14) dL_law_14 rfl (by decide) rfl ?_
  refine J_sub (lv' := [(0, .ref (0)), (1, .ref (1)), (2, .int (nI (0))), (3, .int (nI (0)))]) [3, 2, 1, 0] rfl ?_
  exact l_loop hL 16 0 0 h_1 σ rfl I

