/-! ===== the law, call by call ===== -/
set_option maxHeartbeats 4000000 in
set_option maxRecDepth 20000 in
theorem law_whole {Z : q_Z} {nm : String} {mc ms i : Nat} {m : q_Mm} {w5 w6 w7 : Option Value} {post : Option Value → va_W → Prop} (hi : i + 6 ≤ Z.2.2.2.2.2.1) (hL : Z.2.2.2.2.2.1 ≤ 3072) (hR : q_R m) (kk : ∀ m2, q_R m2 → q_V (q_g Z) (mL nm) 12 mc ms 1384 [some (.ref (Z.2.2.2.2.1 4)), some (.ref (q_ad Z 0)), some (.ref (q_ad Z 215)), some (.ref (q_ad Z 242)), some (.int (nI i)), w5, w6, w7] [] (q_W Z m2) post) : q_V (q_g Z) (mL nm) 12 mc ms 655 [some (.ref (Z.2.2.2.2.1 4)), some (.ref (q_ad Z 0)), some (.ref (q_ad Z 215)), some (.ref (q_ad Z 242)), some (.int (nI i)), w5, w6, w7] [] (q_W Z m) post := by
  obtain ⟨t, im, B, L, c, ck, us, rf, hC, hM⟩ := hR
  obtain ⟨st, hc⟩ := hC.2
  refine q_aload_n (pc' := 656) dL_law_655 rfl rfl ?_
  refine q_aload_n (pc' := 657) dL_law_656 rfl rfl ?_
  refine q_iload (pc' := 659) dL_law_657 rfl rfl ?_
  refine q_iconst (pc' := 660) (v := nI 1) dL_law_659 rfl rfl ?_
  refine q_iaddN (pc' := 661) dL_law_660 rfl ?_
  refine l_ld (pc' := 662) dL_law_661 rfl (by omega) hL rfl ?_
  refine q_aload_n (pc' := 663) dL_law_662 rfl rfl ?_
  refine q_iload (pc' := 665) dL_law_663 rfl rfl ?_
  refine q_iconst (pc' := 666) (v := nI 2) dL_law_665 rfl rfl ?_
  refine q_iaddN (pc' := 667) dL_law_666 rfl ?_
  refine l_ld (pc' := 668) dL_law_667 rfl (by omega) hL rfl ?_
  refine l_callV (pc' := 671) (M' := mX10_whole) (As := [_, _]) dL_law_668 iX10_whole lL_79 rfl rfl rfl rfl (Nat.le_of_ble_eq_true rfl) (Nat.le_of_ble_eq_true rfl) rfl rfl (c_whole hc hC.1.1) (fun r m' hq => ?_)
  obtain ⟨rfl, hs, f1, k1⟩ := hq
  obtain ⟨hC1, u1⟩ := hC.q hs f1 k1 (by decide)
  obtain ⟨m1, hm1⟩ : ∃ z, z = m' := ⟨_, rfl⟩
  subst hm1
  have hM1 := hM.up u1
  refine q_aload_n (pc' := 672) dL_law_671 rfl rfl ?_
  refine q_aload_n (pc' := 673) dL_law_672 rfl rfl ?_
  refine q_iload (pc' := 675) dL_law_673 rfl rfl ?_
  refine q_iconst (pc' := 676) (v := nI 1) dL_law_675 rfl rfl ?_
  refine q_iaddN (pc' := 677) dL_law_676 rfl ?_
  refine l_ld (pc' := 678) dL_law_677 rfl (by omega) hL rfl ?_
  refine q_aload_n (pc' := 679) dL_law_678 rfl rfl ?_
  refine q_iload (pc' := 681) dL_law_679 rfl rfl ?_
  refine q_iconst (pc' := 682) (v := nI 2) dL_law_681 rfl rfl ?_
  refine q_iaddN (pc' := 683) dL_law_682 rfl ?_
  refine l_ld (pc' := 684) dL_law_683 rfl (by omega) hL rfl ?_
  refine l_callV (pc' := 687) (M' := mX11_whole) (As := [_, _]) dL_law_684 iX11_whole lL_83 rfl rfl rfl rfl (Nat.le_of_ble_eq_true rfl) (Nat.le_of_ble_eq_true rfl) rfl rfl (k_whole hM1.qq) (fun r m' hq => ?_)
  obtain ⟨rfl, f2, k2⟩ := hq
  obtain ⟨hM2, d2⟩ := hM1.s f2 k2 (by decide) (by decide)
  refine q_lcmp (pc' := 688) dL_law_687 rfl ?_
  refine q_if_eq (tgt := 1384) (pc' := 691) dL_law_688 (by decide) rfl (fun _ => ?_) (fun z => absurd (lcmp_self _) z)
  exact kk _ (q_R.of hC1 hM2 d2)
set_option maxHeartbeats 4000000 in
set_option maxRecDepth 20000 in
theorem law_part {Z : q_Z} {nm : String} {mc ms i : Nat} {m : q_Mm} {w5 w6 w7 : Option Value} {post : Option Value → va_W → Prop} (hi : i + 6 ≤ Z.2.2.2.2.2.1) (hL : Z.2.2.2.2.2.1 ≤ 3072) (hR : q_R m) (kk : ∀ m2, q_R m2 → q_V (q_g Z) (mL nm) 12 mc ms 1384 [some (.ref (Z.2.2.2.2.1 4)), some (.ref (q_ad Z 0)), some (.ref (q_ad Z 215)), some (.ref (q_ad Z 242)), some (.int (nI i)), w5, w6, w7] [] (q_W Z m2) post) : q_V (q_g Z) (mL nm) 12 mc ms 693 [some (.ref (Z.2.2.2.2.1 4)), some (.ref (q_ad Z 0)), some (.ref (q_ad Z 215)), some (.ref (q_ad Z 242)), some (.int (nI i)), w5, w6, w7] [] (q_W Z m) post := by
  obtain ⟨t, im, B, L, c, ck, us, rf, hC, hM⟩ := hR
  obtain ⟨st, hc⟩ := hC.2
  refine q_aload_n (pc' := 694) dL_law_693 rfl rfl ?_
  refine q_aload_n (pc' := 695) dL_law_694 rfl rfl ?_
  refine q_iload (pc' := 697) dL_law_695 rfl rfl ?_
  refine q_iconst (pc' := 698) (v := nI 1) dL_law_697 rfl rfl ?_
  refine q_iaddN (pc' := 699) dL_law_698 rfl ?_
  refine l_ld (pc' := 700) dL_law_699 rfl (by omega) hL rfl ?_
  refine q_aload_n (pc' := 701) dL_law_700 rfl rfl ?_
  refine q_iload (pc' := 703) dL_law_701 rfl rfl ?_
  refine q_iconst (pc' := 704) (v := nI 2) dL_law_703 rfl rfl ?_
  refine q_iaddN (pc' := 705) dL_law_704 rfl ?_
  refine l_ld (pc' := 706) dL_law_705 rfl (by omega) hL rfl ?_
  refine l_callV (pc' := 709) (M' := mX10_part) (As := [_, _]) dL_law_706 iX10_part lL_84 rfl rfl rfl rfl (Nat.le_of_ble_eq_true rfl) (Nat.le_of_ble_eq_true rfl) rfl rfl (c_part hc hC.1.1) (fun r m' hq => ?_)
  obtain ⟨rfl, hs, f1, k1⟩ := hq
  obtain ⟨hC1, u1⟩ := hC.q hs f1 k1 (by decide)
  obtain ⟨m1, hm1⟩ : ∃ z, z = m' := ⟨_, rfl⟩
  subst hm1
  have hM1 := hM.up u1
  refine q_aload_n (pc' := 710) dL_law_709 rfl rfl ?_
  refine q_aload_n (pc' := 711) dL_law_710 rfl rfl ?_
  refine q_iload (pc' := 713) dL_law_711 rfl rfl ?_
  refine q_iconst (pc' := 714) (v := nI 1) dL_law_713 rfl rfl ?_
  refine q_iaddN (pc' := 715) dL_law_714 rfl ?_
  refine l_ld (pc' := 716) dL_law_715 rfl (by omega) hL rfl ?_
  refine q_aload_n (pc' := 717) dL_law_716 rfl rfl ?_
  refine q_iload (pc' := 719) dL_law_717 rfl rfl ?_
  refine q_iconst (pc' := 720) (v := nI 2) dL_law_719 rfl rfl ?_
  refine q_iaddN (pc' := 721) dL_law_720 rfl ?_
  refine l_ld (pc' := 722) dL_law_721 rfl (by omega) hL rfl ?_
  refine l_callV (pc' := 725) (M' := mX11_part) (As := [_, _]) dL_law_722 iX11_part lL_87 rfl rfl rfl rfl (Nat.le_of_ble_eq_true rfl) (Nat.le_of_ble_eq_true rfl) rfl rfl (k_part hM1.qq) (fun r m' hq => ?_)
  obtain ⟨rfl, f2, k2⟩ := hq
  obtain ⟨hM2, d2⟩ := hM1.s f2 k2 (by decide) (by decide)
  refine q_icmp_eq (tgt := 1384) (pc' := 728) dL_law_725 (by decide) rfl (fun _ => ?_) (fun z => absurd rfl z)
  exact kk _ (q_R.of hC1 hM2 d2)
set_option maxHeartbeats 4000000 in
set_option maxRecDepth 20000 in
theorem law_write {Z : q_Z} {nm : String} {mc ms i : Nat} {m : q_Mm} {w5 w6 w7 : Option Value} {post : Option Value → va_W → Prop} (hi : i + 6 ≤ Z.2.2.2.2.2.1) (hL : Z.2.2.2.2.2.1 ≤ 3072) (hR : q_R m) (kk : ∀ m2, q_R m2 → q_V (q_g Z) (mL nm) 12 mc ms 1384 [some (.ref (Z.2.2.2.2.1 4)), some (.ref (q_ad Z 0)), some (.ref (q_ad Z 215)), some (.ref (q_ad Z 242)), some (.int (nI i)), w5, w6, w7] [] (q_W Z m2) post) : q_V (q_g Z) (mL nm) 12 mc ms 730 [some (.ref (Z.2.2.2.2.1 4)), some (.ref (q_ad Z 0)), some (.ref (q_ad Z 215)), some (.ref (q_ad Z 242)), some (.int (nI i)), w5, w6, w7] [] (q_W Z m) post := by
  obtain ⟨t, im, B, L, c, ck, us, rf, hC, hM⟩ := hR
  obtain ⟨st, hc⟩ := hC.2
  refine q_aload_n (pc' := 731) dL_law_730 rfl rfl ?_
  refine q_aload_n (pc' := 732) dL_law_731 rfl rfl ?_
  refine q_iload (pc' := 734) dL_law_732 rfl rfl ?_
  refine q_iconst (pc' := 735) (v := nI 1) dL_law_734 rfl rfl ?_
  refine q_iaddN (pc' := 736) dL_law_735 rfl ?_
  refine l_ld (pc' := 737) dL_law_736 rfl (by omega) hL rfl ?_
  refine l_callV (pc' := 740) (M' := mX10_write) (As := [_]) dL_law_737 iX10_write lL_88 rfl rfl rfl rfl (Nat.le_of_ble_eq_true rfl) (Nat.le_of_ble_eq_true rfl) rfl rfl (c_write hc hC.1.1 hC.1.2.2.2.1) (fun r m' hq => ?_)
  obtain ⟨rfl, hs, f1, k1, W1⟩ := hq
  obtain ⟨hC1, u1⟩ := hC.wr hs f1 k1 W1
  obtain ⟨m1, hm1⟩ : ∃ z, z = m' := ⟨_, rfl⟩
  subst hm1
  have hM1 := hM.up u1
  refine q_aload_n (pc' := 741) dL_law_740 rfl rfl ?_
  refine q_aload_n (pc' := 742) dL_law_741 rfl rfl ?_
  refine q_iload (pc' := 744) dL_law_742 rfl rfl ?_
  refine q_iconst (pc' := 745) (v := nI 1) dL_law_744 rfl rfl ?_
  refine q_iaddN (pc' := 746) dL_law_745 rfl ?_
  refine l_ld (pc' := 747) dL_law_746 rfl (by omega) hL rfl ?_
  refine l_callV (pc' := 750) (M' := mX11_write) (As := [_]) dL_law_747 iX11_write lL_91 rfl rfl rfl rfl (Nat.le_of_ble_eq_true rfl) (Nat.le_of_ble_eq_true rfl) rfl rfl (k_write hM1.qq hM1.2.2.2.2.1) (fun r m' hq => ?_)
  obtain ⟨rfl, f2, k2, O2⟩ := hq
  obtain ⟨hM2, d2⟩ := hM1.wr f2 k2 O2
  refine q_icmp_eq (tgt := 1384) (pc' := 753) dL_law_750 (by decide) rfl (fun _ => ?_) (fun z => absurd rfl z)
  exact kk _ (q_R.of hC1 hM2 d2)
set_option maxHeartbeats 4000000 in
set_option maxRecDepth 20000 in
theorem law_octet {Z : q_Z} {nm : String} {mc ms i : Nat} {m : q_Mm} {w5 w6 w7 : Option Value} {post : Option Value → va_W → Prop} (hi : i + 6 ≤ Z.2.2.2.2.2.1) (hL : Z.2.2.2.2.2.1 ≤ 3072) (hR : q_R m) (kk : ∀ m2, q_R m2 → q_V (q_g Z) (mL nm) 12 mc ms 1384 [some (.ref (Z.2.2.2.2.1 4)), some (.ref (q_ad Z 0)), some (.ref (q_ad Z 215)), some (.ref (q_ad Z 242)), some (.int (nI i)), w5, w6, w7] [] (q_W Z m2) post) : q_V (q_g Z) (mL nm) 12 mc ms 755 [some (.ref (Z.2.2.2.2.1 4)), some (.ref (q_ad Z 0)), some (.ref (q_ad Z 215)), some (.ref (q_ad Z 242)), some (.int (nI i)), w5, w6, w7] [] (q_W Z m) post := by
  obtain ⟨t, im, B, L, c, ck, us, rf, hC, hM⟩ := hR
  refine q_aload_n (pc' := 756) dL_law_755 rfl rfl ?_
  refine q_aload_n (pc' := 757) dL_law_756 rfl rfl ?_
  refine q_iload (pc' := 759) dL_law_757 rfl rfl ?_
  refine q_iconst (pc' := 760) (v := nI 1) dL_law_759 rfl rfl ?_
  refine q_iaddN (pc' := 761) dL_law_760 rfl ?_
  refine l_ld (pc' := 762) dL_law_761 rfl (by omega) hL rfl ?_
  refine l_callV (pc' := 765) (M' := mX10_octet) (As := [_]) dL_law_762 iX10_octet lL_92 rfl rfl rfl rfl (Nat.le_of_ble_eq_true rfl) (Nat.le_of_ble_eq_true rfl) rfl rfl (c_octet hC.1.2.2.2.1.1) (fun r m' hq => ?_)
  obtain ⟨rfl, hmm⟩ := hq
  subst m'
  have hC1 := hC
  have u1 : Up m m := Up.rf
  obtain ⟨m1, hm1⟩ : ∃ z, z = m := ⟨_, rfl⟩
  subst hm1
  have hM1 := hM.up u1
  refine q_aload_n (pc' := 766) dL_law_765 rfl rfl ?_
  refine q_aload_n (pc' := 767) dL_law_766 rfl rfl ?_
  refine q_iload (pc' := 769) dL_law_767 rfl rfl ?_
  refine q_iconst (pc' := 770) (v := nI 1) dL_law_769 rfl rfl ?_
  refine q_iaddN (pc' := 771) dL_law_770 rfl ?_
  refine l_ld (pc' := 772) dL_law_771 rfl (by omega) hL rfl ?_
  refine l_callV (pc' := 775) (M' := mX11_octet) (As := [_]) dL_law_772 iX11_octet lL_95 rfl rfl rfl rfl (Nat.le_of_ble_eq_true rfl) (Nat.le_of_ble_eq_true rfl) rfl rfl (k_octet hM1) (fun r m' hq => ?_)
  obtain ⟨rfl, hmm⟩ := hq
  subst m'
  have hM2 := hM1
  have d2 : Dn m1 m1 := Dn.rf
  refine q_icmp_eq (tgt := 1384) (pc' := 778) dL_law_775 (by decide) rfl (fun _ => ?_) (fun z => absurd rfl z)
  exact kk _ (q_R.of hC1 hM2 d2)
set_option maxHeartbeats 4000000 in
set_option maxRecDepth 20000 in
theorem law_peek {Z : q_Z} {nm : String} {mc ms i : Nat} {m : q_Mm} {w5 w6 w7 : Option Value} {post : Option Value → va_W → Prop} (hi : i + 6 ≤ Z.2.2.2.2.2.1) (hL : Z.2.2.2.2.2.1 ≤ 3072) (hR : q_R m) (kk : ∀ m2, q_R m2 → q_V (q_g Z) (mL nm) 12 mc ms 1384 [some (.ref (Z.2.2.2.2.1 4)), some (.ref (q_ad Z 0)), some (.ref (q_ad Z 215)), some (.ref (q_ad Z 242)), some (.int (nI i)), w5, w6, w7] [] (q_W Z m2) post) : q_V (q_g Z) (mL nm) 12 mc ms 780 [some (.ref (Z.2.2.2.2.1 4)), some (.ref (q_ad Z 0)), some (.ref (q_ad Z 215)), some (.ref (q_ad Z 242)), some (.int (nI i)), w5, w6, w7] [] (q_W Z m) post := by
  obtain ⟨t, im, B, L, c, ck, us, rf, hC, hM⟩ := hR
  refine q_aload_n (pc' := 781) dL_law_780 rfl rfl ?_
  refine q_aload_n (pc' := 782) dL_law_781 rfl rfl ?_
  refine q_iload (pc' := 784) dL_law_782 rfl rfl ?_
  refine q_iconst (pc' := 785) (v := nI 1) dL_law_784 rfl rfl ?_
  refine q_iaddN (pc' := 786) dL_law_785 rfl ?_
  refine l_ld (pc' := 787) dL_law_786 rfl (by omega) hL rfl ?_
  refine l_callV (pc' := 790) (M' := mX10_peek) (As := [_]) dL_law_787 iX10_peek lL_96 rfl rfl rfl rfl (Nat.le_of_ble_eq_true rfl) (Nat.le_of_ble_eq_true rfl) rfl rfl (c_peek hC) (fun r m' hq => ?_)
  obtain ⟨rfl, hC1, u1⟩ := hq
  obtain ⟨m1, hm1⟩ : ∃ z, z = m' := ⟨_, rfl⟩
  subst hm1
  have hM1 := hM.up u1
  refine q_aload_n (pc' := 791) dL_law_790 rfl rfl ?_
  refine q_aload_n (pc' := 792) dL_law_791 rfl rfl ?_
  refine q_iload (pc' := 794) dL_law_792 rfl rfl ?_
  refine q_iconst (pc' := 795) (v := nI 1) dL_law_794 rfl rfl ?_
  refine q_iaddN (pc' := 796) dL_law_795 rfl ?_
  refine l_ld (pc' := 797) dL_law_796 rfl (by omega) hL rfl ?_
  refine l_callV (pc' := 800) (M' := mX11_peek) (As := [_]) dL_law_797 iX11_peek lL_99 rfl rfl rfl rfl (Nat.le_of_ble_eq_true rfl) (Nat.le_of_ble_eq_true rfl) rfl rfl (k_peek hM1) (fun r m' hq => ?_)
  obtain ⟨rfl, hM2, d2⟩ := hq
  refine q_lcmp (pc' := 801) dL_law_800 rfl ?_
  refine q_if_eq (tgt := 1384) (pc' := 804) dL_law_801 (by decide) rfl (fun _ => ?_) (fun z => absurd (lcmp_self _) z)
  exact kk _ (q_R.of hC1 hM2 d2)
set_option maxHeartbeats 4000000 in
set_option maxRecDepth 20000 in
theorem law_add {Z : q_Z} {nm : String} {mc ms i : Nat} {m : q_Mm} {w5 w6 w7 : Option Value} {post : Option Value → va_W → Prop} (hi : i + 6 ≤ Z.2.2.2.2.2.1) (hL : Z.2.2.2.2.2.1 ≤ 3072) (hR : q_R m) (kk : ∀ m2, q_R m2 → q_V (q_g Z) (mL nm) 12 mc ms 1384 [some (.ref (Z.2.2.2.2.1 4)), some (.ref (q_ad Z 0)), some (.ref (q_ad Z 215)), some (.ref (q_ad Z 242)), some (.int (nI i)), w5, w6, w7] [] (q_W Z m2) post) : q_V (q_g Z) (mL nm) 12 mc ms 806 [some (.ref (Z.2.2.2.2.1 4)), some (.ref (q_ad Z 0)), some (.ref (q_ad Z 215)), some (.ref (q_ad Z 242)), some (.int (nI i)), w5, w6, w7] [] (q_W Z m) post := by
  obtain ⟨t, im, B, L, c, ck, us, rf, hC, hM⟩ := hR
  refine q_aload_n (pc' := 807) dL_law_806 rfl rfl ?_
  refine q_aload_n (pc' := 808) dL_law_807 rfl rfl ?_
  refine q_iload (pc' := 810) dL_law_808 rfl rfl ?_
  refine q_iconst (pc' := 811) (v := nI 1) dL_law_810 rfl rfl ?_
  refine q_iaddN (pc' := 812) dL_law_811 rfl ?_
  refine l_ld (pc' := 813) dL_law_812 rfl (by omega) hL rfl ?_
  refine q_i2l (pc' := 814) dL_law_813 rfl ?_
  refine q_bipush (pc' := 816) (v := nI 32) dL_law_814 rfl rfl ?_
  refine q_lshl (pc' := 817) dL_law_816 rfl rfl ?_
  refine q_aload_n (pc' := 818) dL_law_817 rfl rfl ?_
  refine q_iload (pc' := 820) dL_law_818 rfl rfl ?_
  refine q_iconst (pc' := 821) (v := nI 2) dL_law_820 rfl rfl ?_
  refine q_iaddN (pc' := 822) dL_law_821 rfl ?_
  refine l_ld (pc' := 823) dL_law_822 rfl (by omega) hL rfl ?_
  refine q_i2l (pc' := 824) dL_law_823 rfl ?_
  refine q_ldc2 (pc' := 827) dL_law_824 kL_100 rfl ?_
  refine q_land (pc' := 828) dL_law_827 rfl ?_
  refine q_lor (pc' := 829) dL_law_828 rfl ?_
  refine l_callV (pc' := 832) (M' := mX10_add) (As := [_]) dL_law_829 iX10_add lL_102 rfl rfl rfl rfl (Nat.le_of_ble_eq_true rfl) (Nat.le_of_ble_eq_true rfl) rfl rfl (c_add hC) (fun r m' hq => ?_)
  obtain ⟨rfl, hC1, u1⟩ := hq.u
  obtain ⟨m1, hm1⟩ : ∃ z, z = m' := ⟨_, rfl⟩
  subst hm1
  have hM1 := hM.up u1
  refine q_aload_n (pc' := 833) dL_law_832 rfl rfl ?_
  refine q_aload_n (pc' := 834) dL_law_833 rfl rfl ?_
  refine q_iload (pc' := 836) dL_law_834 rfl rfl ?_
  refine q_iconst (pc' := 837) (v := nI 1) dL_law_836 rfl rfl ?_
  refine q_iaddN (pc' := 838) dL_law_837 rfl ?_
  refine l_ld (pc' := 839) dL_law_838 rfl (by omega) hL rfl ?_
  refine q_i2l (pc' := 840) dL_law_839 rfl ?_
  refine q_bipush (pc' := 842) (v := nI 32) dL_law_840 rfl rfl ?_
  refine q_lshl (pc' := 843) dL_law_842 rfl rfl ?_
  refine q_aload_n (pc' := 844) dL_law_843 rfl rfl ?_
  refine q_iload (pc' := 846) dL_law_844 rfl rfl ?_
  refine q_iconst (pc' := 847) (v := nI 2) dL_law_846 rfl rfl ?_
  refine q_iaddN (pc' := 848) dL_law_847 rfl ?_
  refine l_ld (pc' := 849) dL_law_848 rfl (by omega) hL rfl ?_
  refine q_i2l (pc' := 850) dL_law_849 rfl ?_
  refine q_ldc2 (pc' := 853) dL_law_850 kL_100 rfl ?_
  refine q_land (pc' := 854) dL_law_853 rfl ?_
  refine q_lor (pc' := 855) dL_law_854 rfl ?_
  refine l_callV (pc' := 858) (M' := mX11_add) (As := [_]) dL_law_855 iX11_add lL_106 rfl rfl rfl rfl (Nat.le_of_ble_eq_true rfl) (Nat.le_of_ble_eq_true rfl) rfl rfl (k_add hM1) (fun r m' hq => ?_)
  obtain ⟨rfl, hM2, d2⟩ := hq.u
  refine q_icmp_eq (tgt := 1384) (pc' := 861) dL_law_858 (by decide) rfl (fun _ => ?_) (fun z => absurd rfl z)
  exact kk _ (q_R.of hC1 hM2 d2)
set_option maxHeartbeats 4000000 in
set_option maxRecDepth 20000 in
theorem law_put {Z : q_Z} {nm : String} {mc ms i : Nat} {m : q_Mm} {w5 w6 w7 : Option Value} {post : Option Value → va_W → Prop} (hi : i + 6 ≤ Z.2.2.2.2.2.1) (hL : Z.2.2.2.2.2.1 ≤ 3072) (hR : q_R m) (kk : ∀ m2, q_R m2 → q_V (q_g Z) (mL nm) 12 mc ms 1384 [some (.ref (Z.2.2.2.2.1 4)), some (.ref (q_ad Z 0)), some (.ref (q_ad Z 215)), some (.ref (q_ad Z 242)), some (.int (nI i)), w5, w6, w7] [] (q_W Z m2) post) : q_V (q_g Z) (mL nm) 12 mc ms 863 [some (.ref (Z.2.2.2.2.1 4)), some (.ref (q_ad Z 0)), some (.ref (q_ad Z 215)), some (.ref (q_ad Z 242)), some (.int (nI i)), w5, w6, w7] [] (q_W Z m) post := by
  obtain ⟨t, im, B, L, c, ck, us, rf, hC, hM⟩ := hR
  refine q_aload_n (pc' := 864) dL_law_863 rfl rfl ?_
  refine q_aload_n (pc' := 865) dL_law_864 rfl rfl ?_
  refine q_iload (pc' := 867) dL_law_865 rfl rfl ?_
  refine q_iconst (pc' := 868) (v := nI 1) dL_law_867 rfl rfl ?_
  refine q_iaddN (pc' := 869) dL_law_868 rfl ?_
  refine l_ld (pc' := 870) dL_law_869 rfl (by omega) hL rfl ?_
  refine q_aload_n (pc' := 871) dL_law_870 rfl rfl ?_
  refine q_iload (pc' := 873) dL_law_871 rfl rfl ?_
  refine q_iconst (pc' := 874) (v := nI 2) dL_law_873 rfl rfl ?_
  refine q_iaddN (pc' := 875) dL_law_874 rfl ?_
  refine l_ld (pc' := 876) dL_law_875 rfl (by omega) hL rfl ?_
  refine q_i2l (pc' := 877) dL_law_876 rfl ?_
  refine q_bipush (pc' := 879) (v := nI 32) dL_law_877 rfl rfl ?_
  refine q_lshl (pc' := 880) dL_law_879 rfl rfl ?_
  refine q_aload_n (pc' := 881) dL_law_880 rfl rfl ?_
  refine q_iload (pc' := 883) dL_law_881 rfl rfl ?_
  refine q_iconst (pc' := 884) (v := nI 3) dL_law_883 rfl rfl ?_
  refine q_iaddN (pc' := 885) dL_law_884 rfl ?_
  refine l_ld (pc' := 886) dL_law_885 rfl (by omega) hL rfl ?_
  refine q_i2l (pc' := 887) dL_law_886 rfl ?_
  refine q_ldc2 (pc' := 890) dL_law_887 kL_100 rfl ?_
  refine q_land (pc' := 891) dL_law_890 rfl ?_
  refine q_lor (pc' := 892) dL_law_891 rfl ?_
  refine l_callV (pc' := 895) (M' := mX10_put) (As := [_, _]) dL_law_892 iX10_put lL_107 rfl rfl rfl rfl (Nat.le_of_ble_eq_true rfl) (Nat.le_of_ble_eq_true rfl) rfl rfl (c_put hC) (fun r m' hq => ?_)
  obtain ⟨rfl, hC1, u1⟩ := hq.u
  obtain ⟨m1, hm1⟩ : ∃ z, z = m' := ⟨_, rfl⟩
  subst hm1
  have hM1 := hM.up u1
  refine q_aload_n (pc' := 896) dL_law_895 rfl rfl ?_
  refine q_aload_n (pc' := 897) dL_law_896 rfl rfl ?_
  refine q_iload (pc' := 899) dL_law_897 rfl rfl ?_
  refine q_iconst (pc' := 900) (v := nI 1) dL_law_899 rfl rfl ?_
  refine q_iaddN (pc' := 901) dL_law_900 rfl ?_
  refine l_ld (pc' := 902) dL_law_901 rfl (by omega) hL rfl ?_
  refine q_aload_n (pc' := 903) dL_law_902 rfl rfl ?_
  refine q_iload (pc' := 905) dL_law_903 rfl rfl ?_
  refine q_iconst (pc' := 906) (v := nI 2) dL_law_905 rfl rfl ?_
  refine q_iaddN (pc' := 907) dL_law_906 rfl ?_
  refine l_ld (pc' := 908) dL_law_907 rfl (by omega) hL rfl ?_
  refine q_i2l (pc' := 909) dL_law_908 rfl ?_
  refine q_bipush (pc' := 911) (v := nI 32) dL_law_909 rfl rfl ?_
  refine q_lshl (pc' := 912) dL_law_911 rfl rfl ?_
  refine q_aload_n (pc' := 913) dL_law_912 rfl rfl ?_
  refine q_iload (pc' := 915) dL_law_913 rfl rfl ?_
  refine q_iconst (pc' := 916) (v := nI 3) dL_law_915 rfl rfl ?_
  refine q_iaddN (pc' := 917) dL_law_916 rfl ?_
  refine l_ld (pc' := 918) dL_law_917 rfl (by omega) hL rfl ?_
  refine q_i2l (pc' := 919) dL_law_918 rfl ?_
  refine q_ldc2 (pc' := 922) dL_law_919 kL_100 rfl ?_
  refine q_land (pc' := 923) dL_law_922 rfl ?_
  refine q_lor (pc' := 924) dL_law_923 rfl ?_
  refine l_callV (pc' := 927) (M' := mX11_put) (As := [_, _]) dL_law_924 iX11_put lL_111 rfl rfl rfl rfl (Nat.le_of_ble_eq_true rfl) (Nat.le_of_ble_eq_true rfl) rfl rfl (k_put hM1) (fun r m' hq => ?_)
  obtain ⟨rfl, hM2, d2⟩ := hq.u
  refine q_icmp_eq (tgt := 1384) (pc' := 930) dL_law_927 (by decide) rfl (fun _ => ?_) (fun z => absurd rfl z)
  exact kk _ (q_R.of hC1 hM2 d2)
