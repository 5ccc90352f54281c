set_option maxRecDepth 100000 in
set_option maxHeartbeats 4000000 in
theorem law_lost {g : GT} {kc ks : Nat} (hk : kc ≤ 600000 ∧ ks ≤ 7302250) (hN : gN g < 2 ^ 31) (M : TM) (hI : Iv M) (p : Nat) (hp : p + 6 ≤ gN g) (hih : ∀ M2, Iv M2 → TR g room_1 RL cL_law 4 ret kc ks (ZL g) 1576 [some (.ref (gad g 52 0)), some (.ref (gad g 5 0)), some (.ref (gad g 6 0)), some (.int (nI p))] [] M2) : TR g room_1 RL cL_law 4 ret kc ks (ZL g) 742 [some (.ref (gad g 52 0)), some (.ref (gad g 5 0)), some (.ref (gad g 6 0)), some (.int (nI p))] [] M := by
  obtain ⟨hA, hB, hC, hD, hE, hF⟩ := id hI
  obtain ⟨hW, hR, hT⟩ := id hA
  obtain ⟨tp, h96, et⟩ := id hE.2.2.1
  obtain ⟨w, h60, ew⟩ := id hF.2.2
  refine q_aload_n 743 dL_law_742 rfl rfl ?_
  refine q_aload_n 744 dL_law_743 rfl rfl ?_
  refine q_iload_n 745 dL_law_744 rfl rfl ?_
  refine q_iconst (v := 1) 746 dL_law_745 rfl rfl ?_
  refine q_iadd 747 dL_law_746 rfl ?_
  refine q_sald 748 dL_law_747 rfl (nI_add p 1) (show p + 1 < gN g by omega) hN ?_
  refine q_callV 751 dL_law_748 rfl (c5_lost M _ (M 31 0) hR hW hT) cw_L_81 (by decide) rfl rfl ⟨by decide, by decide⟩ hk (Nat.le_of_ble_eq_true rfl) ?_
  rintro _ M1 ⟨rfl, k1⟩
  have e31 : M1 31 0 = M 31 0 := k1 31 0 (by decide) (by decide)
  refine q_aload_n 752 dL_law_751 rfl rfl ?_
  refine q_aload_n 753 dL_law_752 rfl rfl ?_
  refine q_iload_n 754 dL_law_753 rfl rfl ?_
  refine q_iconst (v := 1) 755 dL_law_754 rfl rfl ?_
  refine q_iadd 756 dL_law_755 rfl ?_
  refine q_sald 757 dL_law_756 rfl (nI_add p 1) (show p + 1 < gN g by omega) hN ?_
  refine q_callV 760 dL_law_757 rfl (c6_lost M1 _ (M 31 0) e31 hW) cw_L_84 (by decide) rfl rfl ⟨by decide, by decide⟩ hk (Nat.le_of_ble_eq_true rfl) ?_
  rintro _ M2 ⟨rfl, C, f, f2, rfl⟩
  refine q_icmp_eq 1576 763 dL_law_760 rfl rfl (fun _ => ?_) (fun h_760 => absurd rfl h_760)
  exact hih _ (Iv_KQ hI (((Kl.p2 k1).q.s42 C).sc f f2).s31)
set_option maxRecDepth 100000 in
set_option maxHeartbeats 4000000 in
theorem law_solid {g : GT} {kc ks : Nat} (hk : kc ≤ 600000 ∧ ks ≤ 7302250) (hN : gN g < 2 ^ 31) (M : TM) (hI : Iv M) (p : Nat) (hp : p + 6 ≤ gN g) (hih : ∀ M2, Iv M2 → TR g room_1 RL cL_law 4 ret kc ks (ZL g) 1576 [some (.ref (gad g 52 0)), some (.ref (gad g 5 0)), some (.ref (gad g 6 0)), some (.int (nI p))] [] M2) : TR g room_1 RL cL_law 4 ret kc ks (ZL g) 765 [some (.ref (gad g 52 0)), some (.ref (gad g 5 0)), some (.ref (gad g 6 0)), some (.int (nI p))] [] M := by
  obtain ⟨hA, hB, hC, hD, hE, hF⟩ := id hI
  obtain ⟨hW, hR, hT⟩ := id hA
  obtain ⟨tp, h96, et⟩ := id hE.2.2.1
  obtain ⟨w, h60, ew⟩ := id hF.2.2
  refine q_aload_n 766 dL_law_765 rfl rfl ?_
  refine q_aload_n 767 dL_law_766 rfl rfl ?_
  refine q_iload_n 768 dL_law_767 rfl rfl ?_
  refine q_iconst (v := 1) 769 dL_law_768 rfl rfl ?_
  refine q_iadd 770 dL_law_769 rfl ?_
  refine q_sald 771 dL_law_770 rfl (nI_add p 1) (show p + 1 < gN g by omega) hN ?_
  refine q_callV 774 dL_law_771 rfl (c5_solid M _ (M 31 0) hR hW hT) cw_L_85 (by decide) rfl rfl ⟨by decide, by decide⟩ hk (Nat.le_of_ble_eq_true rfl) ?_
  rintro _ M1 ⟨rfl, k1⟩
  have e31 : M1 31 0 = M 31 0 := k1 31 0 (by decide) (by decide)
  refine q_aload_n 775 dL_law_774 rfl rfl ?_
  refine q_aload_n 776 dL_law_775 rfl rfl ?_
  refine q_iload_n 777 dL_law_776 rfl rfl ?_
  refine q_iconst (v := 1) 778 dL_law_777 rfl rfl ?_
  refine q_iadd 779 dL_law_778 rfl ?_
  refine q_sald 780 dL_law_779 rfl (nI_add p 1) (show p + 1 < gN g by omega) hN ?_
  refine q_callV 783 dL_law_780 rfl (c6_solid M1 _ (M 31 0) e31 hW) cw_L_88 (by decide) rfl rfl ⟨by decide, by decide⟩ hk (Nat.le_of_ble_eq_true rfl) ?_
  rintro _ M2 ⟨rfl, C, f, f2, rfl⟩
  refine q_icmp_eq 1576 786 dL_law_783 rfl rfl (fun _ => ?_) (fun h_783 => absurd rfl h_783)
  exact hih _ (Iv_KQ hI (((Kl.p2 k1).q.s42 C).sc f f2).s31)
set_option maxRecDepth 100000 in
set_option maxHeartbeats 4000000 in
theorem law_spoon {g : GT} {kc ks : Nat} (hk : kc ≤ 600000 ∧ ks ≤ 7302250) (hN : gN g < 2 ^ 31) (M : TM) (hI : Iv M) (p : Nat) (hp : p + 6 ≤ gN g) (hih : ∀ M2, Iv M2 → TR g room_1 RL cL_law 4 ret kc ks (ZL g) 1576 [some (.ref (gad g 52 0)), some (.ref (gad g 5 0)), some (.ref (gad g 6 0)), some (.int (nI p))] [] M2) : TR g room_1 RL cL_law 4 ret kc ks (ZL g) 788 [some (.ref (gad g 52 0)), some (.ref (gad g 5 0)), some (.ref (gad g 6 0)), some (.int (nI p))] [] M := by
  obtain ⟨hA, hB, hC, hD, hE, hF⟩ := id hI
  obtain ⟨hW, hR, hT⟩ := id hA
  obtain ⟨tp, h96, et⟩ := id hE.2.2.1
  obtain ⟨w, h60, ew⟩ := id hF.2.2
  refine q_aload_n 789 dL_law_788 rfl rfl ?_
  refine q_aload_n 790 dL_law_789 rfl rfl ?_
  refine q_iload_n 791 dL_law_790 rfl rfl ?_
  refine q_iconst (v := 1) 792 dL_law_791 rfl rfl ?_
  refine q_iadd 793 dL_law_792 rfl ?_
  refine q_sald 794 dL_law_793 rfl (nI_add p 1) (show p + 1 < gN g by omega) hN ?_
  refine q_aload_n 795 dL_law_794 rfl rfl ?_
  refine q_iload_n 796 dL_law_795 rfl rfl ?_
  refine q_iconst (v := 2) 797 dL_law_796 rfl rfl ?_
  refine q_iadd 798 dL_law_797 rfl ?_
  refine q_sald 799 dL_law_798 rfl (nI_add p 2) (show p + 2 < gN g by omega) hN ?_
  refine q_callV 802 dL_law_799 rfl (c5_spoon M _ _ (M 31 0) hR hW hT) cw_L_89 (by decide) rfl rfl ⟨by decide, by decide⟩ hk (Nat.le_of_ble_eq_true rfl) ?_
  rintro _ M1 ⟨rfl, k1⟩
  have e31 : M1 31 0 = M 31 0 := k1 31 0 (by decide) (by decide)
  refine q_aload_n 803 dL_law_802 rfl rfl ?_
  refine q_aload_n 804 dL_law_803 rfl rfl ?_
  refine q_iload_n 805 dL_law_804 rfl rfl ?_
  refine q_iconst (v := 1) 806 dL_law_805 rfl rfl ?_
  refine q_iadd 807 dL_law_806 rfl ?_
  refine q_sald 808 dL_law_807 rfl (nI_add p 1) (show p + 1 < gN g by omega) hN ?_
  refine q_aload_n 809 dL_law_808 rfl rfl ?_
  refine q_iload_n 810 dL_law_809 rfl rfl ?_
  refine q_iconst (v := 2) 811 dL_law_810 rfl rfl ?_
  refine q_iadd 812 dL_law_811 rfl ?_
  refine q_sald 813 dL_law_812 rfl (nI_add p 2) (show p + 2 < gN g by omega) hN ?_
  refine q_callV 816 dL_law_813 rfl (c6_spoon M1 _ _ (M 31 0) e31 hW) cw_L_92 (by decide) rfl rfl ⟨by decide, by decide⟩ hk (Nat.le_of_ble_eq_true rfl) ?_
  rintro _ M2 ⟨rfl, C, f, f2, rfl⟩
  refine q_icmp_eq 1576 819 dL_law_816 rfl rfl (fun _ => ?_) (fun h_816 => absurd rfl h_816)
  exact hih _ (Iv_KQ hI (((Kl.p2 k1).q.s42 C).sc f f2).s31)
set_option maxRecDepth 100000 in
set_option maxHeartbeats 4000000 in
theorem law_place {g : GT} {kc ks : Nat} (hk : kc ≤ 600000 ∧ ks ≤ 7302250) (hN : gN g < 2 ^ 31) (M : TM) (hI : Iv M) (p : Nat) (hp : p + 6 ≤ gN g) (hih : ∀ M2, Iv M2 → TR g room_1 RL cL_law 4 ret kc ks (ZL g) 1576 [some (.ref (gad g 52 0)), some (.ref (gad g 5 0)), some (.ref (gad g 6 0)), some (.int (nI p))] [] M2) : TR g room_1 RL cL_law 4 ret kc ks (ZL g) 821 [some (.ref (gad g 52 0)), some (.ref (gad g 5 0)), some (.ref (gad g 6 0)), some (.int (nI p))] [] M := by
  obtain ⟨hA, hB, hC, hD, hE, hF⟩ := id hI
  obtain ⟨hW, hR, hT⟩ := id hA
  obtain ⟨tp, h96, et⟩ := id hE.2.2.1
  obtain ⟨w, h60, ew⟩ := id hF.2.2
  refine q_aload_n 822 dL_law_821 rfl rfl ?_
  refine q_aload_n 823 dL_law_822 rfl rfl ?_
  refine q_iload_n 824 dL_law_823 rfl rfl ?_
  refine q_iconst (v := 1) 825 dL_law_824 rfl rfl ?_
  refine q_iadd 826 dL_law_825 rfl ?_
  refine q_sald 827 dL_law_826 rfl (nI_add p 1) (show p + 1 < gN g by omega) hN ?_
  refine q_aload_n 828 dL_law_827 rfl rfl ?_
  refine q_iload_n 829 dL_law_828 rfl rfl ?_
  refine q_iconst (v := 2) 830 dL_law_829 rfl rfl ?_
  refine q_iadd 831 dL_law_830 rfl ?_
  refine q_sald 832 dL_law_831 rfl (nI_add p 2) (show p + 2 < gN g by omega) hN ?_
  refine q_aload_n 833 dL_law_832 rfl rfl ?_
  refine q_iload_n 834 dL_law_833 rfl rfl ?_
  refine q_iconst (v := 3) 835 dL_law_834 rfl rfl ?_
  refine q_iadd 836 dL_law_835 rfl ?_
  refine q_sald 837 dL_law_836 rfl (nI_add p 3) (show p + 3 < gN g by omega) hN ?_
  refine q_callV 840 dL_law_837 rfl (c5_place M _ _ _ (M 31 0) hR hW hT) cw_L_93 (by decide) rfl rfl ⟨by decide, by decide⟩ hk (Nat.le_of_ble_eq_true rfl) ?_
  rintro _ M1 ⟨rfl, k1⟩
  have e31 : M1 31 0 = M 31 0 := k1 31 0 (by decide) (by decide)
  refine q_aload_n 841 dL_law_840 rfl rfl ?_
  refine q_aload_n 842 dL_law_841 rfl rfl ?_
  refine q_iload_n 843 dL_law_842 rfl rfl ?_
  refine q_iconst (v := 1) 844 dL_law_843 rfl rfl ?_
  refine q_iadd 845 dL_law_844 rfl ?_
  refine q_sald 846 dL_law_845 rfl (nI_add p 1) (show p + 1 < gN g by omega) hN ?_
  refine q_aload_n 847 dL_law_846 rfl rfl ?_
  refine q_iload_n 848 dL_law_847 rfl rfl ?_
  refine q_iconst (v := 2) 849 dL_law_848 rfl rfl ?_
  refine q_iadd 850 dL_law_849 rfl ?_
  refine q_sald 851 dL_law_850 rfl (nI_add p 2) (show p + 2 < gN g by omega) hN ?_
  refine q_aload_n 852 dL_law_851 rfl rfl ?_
  refine q_iload_n 853 dL_law_852 rfl rfl ?_
  refine q_iconst (v := 3) 854 dL_law_853 rfl rfl ?_
  refine q_iadd 855 dL_law_854 rfl ?_
  refine q_sald 856 dL_law_855 rfl (nI_add p 3) (show p + 3 < gN g by omega) hN ?_
  refine q_callV 859 dL_law_856 rfl (c6_place M1 _ _ _ (M 31 0) e31 hW) cw_L_96 (by decide) rfl rfl ⟨by decide, by decide⟩ hk (Nat.le_of_ble_eq_true rfl) ?_
  rintro _ M2 ⟨rfl, C, f, f2, rfl⟩
  refine q_icmp_eq 1576 862 dL_law_859 rfl rfl (fun _ => ?_) (fun h_859 => absurd rfl h_859)
  exact hih _ (Iv_KQ hI (((Kl.p2 k1).q.s42 C).sc f f2).s31)
set_option maxRecDepth 100000 in
set_option maxHeartbeats 4000000 in
theorem law_becomes {g : GT} {kc ks : Nat} (hk : kc ≤ 600000 ∧ ks ≤ 7302250) (hN : gN g < 2 ^ 31) (M : TM) (hI : Iv M) (p : Nat) (hp : p + 6 ≤ gN g) (hih : ∀ M2, Iv M2 → TR g room_1 RL cL_law 4 ret kc ks (ZL g) 1576 [some (.ref (gad g 52 0)), some (.ref (gad g 5 0)), some (.ref (gad g 6 0)), some (.int (nI p))] [] M2) : TR g room_1 RL cL_law 4 ret kc ks (ZL g) 864 [some (.ref (gad g 52 0)), some (.ref (gad g 5 0)), some (.ref (gad g 6 0)), some (.int (nI p))] [] M := by
  obtain ⟨hA, hB, hC, hD, hE, hF⟩ := id hI
  obtain ⟨hW, hR, hT⟩ := id hA
  obtain ⟨tp, h96, et⟩ := id hE.2.2.1
  obtain ⟨w, h60, ew⟩ := id hF.2.2
  refine q_aload_n 865 dL_law_864 rfl rfl ?_
  refine q_aload_n 866 dL_law_865 rfl rfl ?_
  refine q_iload_n 867 dL_law_866 rfl rfl ?_
  refine q_iconst (v := 1) 868 dL_law_867 rfl rfl ?_
  refine q_iadd 869 dL_law_868 rfl ?_
  refine q_sald 870 dL_law_869 rfl (nI_add p 1) (show p + 1 < gN g by omega) hN ?_
  refine q_aload_n 871 dL_law_870 rfl rfl ?_
  refine q_iload_n 872 dL_law_871 rfl rfl ?_
  refine q_iconst (v := 2) 873 dL_law_872 rfl rfl ?_
  refine q_iadd 874 dL_law_873 rfl ?_
  refine q_sald 875 dL_law_874 rfl (nI_add p 2) (show p + 2 < gN g by omega) hN ?_
  refine q_aload_n 876 dL_law_875 rfl rfl ?_
  refine q_iload_n 877 dL_law_876 rfl rfl ?_
  refine q_iconst (v := 3) 878 dL_law_877 rfl rfl ?_
  refine q_iadd 879 dL_law_878 rfl ?_
  refine q_sald 880 dL_law_879 rfl (nI_add p 3) (show p + 3 < gN g by omega) hN ?_
  refine q_callV 883 dL_law_880 rfl (c5_becomes M _ _ _ (M 31 0) hR hW hT) cw_L_97 (by decide) rfl rfl ⟨by decide, by decide⟩ hk (Nat.le_of_ble_eq_true rfl) ?_
  rintro _ M1 ⟨rfl, k1⟩
  have e31 : M1 31 0 = M 31 0 := k1 31 0 (by decide) (by decide)
  refine q_aload_n 884 dL_law_883 rfl rfl ?_
  refine q_aload_n 885 dL_law_884 rfl rfl ?_
  refine q_iload_n 886 dL_law_885 rfl rfl ?_
  refine q_iconst (v := 1) 887 dL_law_886 rfl rfl ?_
  refine q_iadd 888 dL_law_887 rfl ?_
  refine q_sald 889 dL_law_888 rfl (nI_add p 1) (show p + 1 < gN g by omega) hN ?_
  refine q_aload_n 890 dL_law_889 rfl rfl ?_
  refine q_iload_n 891 dL_law_890 rfl rfl ?_
  refine q_iconst (v := 2) 892 dL_law_891 rfl rfl ?_
  refine q_iadd 893 dL_law_892 rfl ?_
  refine q_sald 894 dL_law_893 rfl (nI_add p 2) (show p + 2 < gN g by omega) hN ?_
  refine q_aload_n 895 dL_law_894 rfl rfl ?_
  refine q_iload_n 896 dL_law_895 rfl rfl ?_
  refine q_iconst (v := 3) 897 dL_law_896 rfl rfl ?_
  refine q_iadd 898 dL_law_897 rfl ?_
  refine q_sald 899 dL_law_898 rfl (nI_add p 3) (show p + 3 < gN g by omega) hN ?_
  refine q_callV 902 dL_law_899 rfl (c6_becomes M1 _ _ _ (M 31 0) e31 hW) cw_L_100 (by decide) rfl rfl ⟨by decide, by decide⟩ hk (Nat.le_of_ble_eq_true rfl) ?_
  rintro _ M2 ⟨rfl, C, f, f2, rfl⟩
  refine q_icmp_eq 1576 905 dL_law_902 rfl rfl (fun _ => ?_) (fun h_902 => absurd rfl h_902)
  exact hih _ (Iv_KQ hI (((Kl.p2 k1).q.s42 C).sc f f2).s31)
set_option maxRecDepth 100000 in
set_option maxHeartbeats 4000000 in
theorem law_eyes {g : GT} {kc ks : Nat} (hk : kc ≤ 600000 ∧ ks ≤ 7302250) (hN : gN g < 2 ^ 31) (M : TM) (hI : Iv M) (p : Nat) (hp : p + 6 ≤ gN g) (hih : ∀ M2, Iv M2 → TR g room_1 RL cL_law 4 ret kc ks (ZL g) 1576 [some (.ref (gad g 52 0)), some (.ref (gad g 5 0)), some (.ref (gad g 6 0)), some (.int (nI p))] [] M2) : TR g room_1 RL cL_law 4 ret kc ks (ZL g) 907 [some (.ref (gad g 52 0)), some (.ref (gad g 5 0)), some (.ref (gad g 6 0)), some (.int (nI p))] [] M := by
  obtain ⟨hA, hB, hC, hD, hE, hF⟩ := id hI
  obtain ⟨hW, hR, hT⟩ := id hA
  obtain ⟨tp, h96, et⟩ := id hE.2.2.1
  obtain ⟨w, h60, ew⟩ := id hF.2.2
  refine q_aload_n 908 dL_law_907 rfl rfl ?_
  refine q_aload_n 909 dL_law_908 rfl rfl ?_
  refine q_iload_n 910 dL_law_909 rfl rfl ?_
  refine q_iconst (v := 1) 911 dL_law_910 rfl rfl ?_
  refine q_iadd 912 dL_law_911 rfl ?_
  refine q_sald 913 dL_law_912 rfl (nI_add p 1) (show p + 1 < gN g by omega) hN ?_
  refine q_aload_n 914 dL_law_913 rfl rfl ?_
  refine q_iload_n 915 dL_law_914 rfl rfl ?_
  refine q_iconst (v := 2) 916 dL_law_915 rfl rfl ?_
  refine q_iadd 917 dL_law_916 rfl ?_
  refine q_sald 918 dL_law_917 rfl (nI_add p 2) (show p + 2 < gN g by omega) hN ?_
  refine q_callV 921 dL_law_918 rfl (c5_eyes M _ _ (M 31 0) hR hW hT) cw_L_101 (by decide) rfl rfl ⟨by decide, by decide⟩ hk (Nat.le_of_ble_eq_true rfl) ?_
  rintro _ M1 ⟨rfl, k1⟩
  have e31 : M1 31 0 = M 31 0 := k1 31 0 (by decide) (by decide)
  refine q_aload_n 922 dL_law_921 rfl rfl ?_
  refine q_aload_n 923 dL_law_922 rfl rfl ?_
  refine q_iload_n 924 dL_law_923 rfl rfl ?_
  refine q_iconst (v := 1) 925 dL_law_924 rfl rfl ?_
  refine q_iadd 926 dL_law_925 rfl ?_
  refine q_sald 927 dL_law_926 rfl (nI_add p 1) (show p + 1 < gN g by omega) hN ?_
  refine q_aload_n 928 dL_law_927 rfl rfl ?_
  refine q_iload_n 929 dL_law_928 rfl rfl ?_
  refine q_iconst (v := 2) 930 dL_law_929 rfl rfl ?_
  refine q_iadd 931 dL_law_930 rfl ?_
  refine q_sald 932 dL_law_931 rfl (nI_add p 2) (show p + 2 < gN g by omega) hN ?_
  refine q_callV 935 dL_law_932 rfl (c6_eyes M1 _ _ (M 31 0) e31 hW) cw_L_104 (by decide) rfl rfl ⟨by decide, by decide⟩ hk (Nat.le_of_ble_eq_true rfl) ?_
  rintro _ M2 ⟨rfl, C, f, f2, rfl⟩
  refine q_icmp_eq 1576 938 dL_law_935 rfl rfl (fun _ => ?_) (fun h_935 => absurd rfl h_935)
  exact hih _ (Iv_KQ hI (((Kl.p2 k1).q.s42 C).sc f f2).s31)
set_option maxRecDepth 100000 in
set_option maxHeartbeats 4000000 in
theorem law_like {g : GT} {kc ks : Nat} (hk : kc ≤ 600000 ∧ ks ≤ 7302250) (hN : gN g < 2 ^ 31) (M : TM) (hI : Iv M) (p : Nat) (hp : p + 6 ≤ gN g) (hih : ∀ M2, Iv M2 → TR g room_1 RL cL_law 4 ret kc ks (ZL g) 1576 [some (.ref (gad g 52 0)), some (.ref (gad g 5 0)), some (.ref (gad g 6 0)), some (.int (nI p))] [] M2) : TR g room_1 RL cL_law 4 ret kc ks (ZL g) 940 [some (.ref (gad g 52 0)), some (.ref (gad g 5 0)), some (.ref (gad g 6 0)), some (.int (nI p))] [] M := by
  obtain ⟨hA, hB, hC, hD, hE, hF⟩ := id hI
  obtain ⟨hW, hR, hT⟩ := id hA
  obtain ⟨tp, h96, et⟩ := id hE.2.2.1
  obtain ⟨w, h60, ew⟩ := id hF.2.2
  refine q_aload_n 941 dL_law_940 rfl rfl ?_
  refine q_aload_n 942 dL_law_941 rfl rfl ?_
  refine q_iload_n 943 dL_law_942 rfl rfl ?_
  refine q_iconst (v := 1) 944 dL_law_943 rfl rfl ?_
  refine q_iadd 945 dL_law_944 rfl ?_
  refine q_sald 946 dL_law_945 rfl (nI_add p 1) (show p + 1 < gN g by omega) hN ?_
  refine q_aload_n 947 dL_law_946 rfl rfl ?_
  refine q_iload_n 948 dL_law_947 rfl rfl ?_
  refine q_iconst (v := 2) 949 dL_law_948 rfl rfl ?_
  refine q_iadd 950 dL_law_949 rfl ?_
  refine q_sald 951 dL_law_950 rfl (nI_add p 2) (show p + 2 < gN g by omega) hN ?_
  refine q_callV 954 dL_law_951 rfl (c5_like M _ _ hC.1 hC.2.2 (M 31 0) hR hW hT) cw_L_105 (by decide) rfl rfl ⟨by decide, by decide⟩ hk (Nat.le_of_ble_eq_true rfl) ?_
  rintro _ M1 ⟨rfl, k1⟩
  have e31 : M1 31 0 = M 31 0 := k1 31 0 (by decide) (by decide) (by decide)
  have e34 : M1 34 0 = M 34 0 := k1 34 0 (by decide) (by decide) (by decide)
  have e35 : M1 35 0 = M 35 0 := k1 35 0 (by decide) (by decide) (by decide)
  have e36 : M1 36 0 = M 36 0 := k1 36 0 (by decide) (by decide) (by decide)
  refine q_aload_n 955 dL_law_954 rfl rfl ?_
  refine q_aload_n 956 dL_law_955 rfl rfl ?_
  refine q_iload_n 957 dL_law_956 rfl rfl ?_
  refine q_iconst (v := 1) 958 dL_law_957 rfl rfl ?_
  refine q_iadd 959 dL_law_958 rfl ?_
  refine q_sald 960 dL_law_959 rfl (nI_add p 1) (show p + 1 < gN g by omega) hN ?_
  refine q_aload_n 961 dL_law_960 rfl rfl ?_
  refine q_iload_n 962 dL_law_961 rfl rfl ?_
  refine q_iconst (v := 2) 963 dL_law_962 rfl rfl ?_
  refine q_iadd 964 dL_law_963 rfl ?_
  refine q_sald 965 dL_law_964 rfl (nI_add p 2) (show p + 2 < gN g by omega) hN ?_
  refine q_callV 968 dL_law_965 rfl (c6_like M1 _ _ (WS6_f hC.ws6 e34 e35) (M 31 0) e31 hW) cw_L_108 (by decide) rfl rfl ⟨by decide, by decide⟩ hk (Nat.le_of_ble_eq_true rfl) ?_
  rintro _ M2 ⟨rfl, C, f, f2, rfl⟩
  refine q_icmp_eq 1576 971 dL_law_968 rfl rfl (fun _ => ?_) (fun h_968 => absurd (a_like hI e34 e35 e36 _ _) h_968)
  exact hih _ (Iv_KQ hI ((k1.q.s42 C).sc f f2).s31)
set_option maxRecDepth 100000 in
set_option maxHeartbeats 4000000 in
theorem law_fee {g : GT} {kc ks : Nat} (hk : kc ≤ 600000 ∧ ks ≤ 7302250) (hN : gN g < 2 ^ 31) (M : TM) (hI : Iv M) (p : Nat) (hp : p + 6 ≤ gN g) (hih : ∀ M2, Iv M2 → TR g room_1 RL cL_law 4 ret kc ks (ZL g) 1576 [some (.ref (gad g 52 0)), some (.ref (gad g 5 0)), some (.ref (gad g 6 0)), some (.int (nI p))] [] M2) : TR g room_1 RL cL_law 4 ret kc ks (ZL g) 973 [some (.ref (gad g 52 0)), some (.ref (gad g 5 0)), some (.ref (gad g 6 0)), some (.int (nI p))] [] M := by
  obtain ⟨hA, hB, hC, hD, hE, hF⟩ := id hI
  obtain ⟨hW, hR, hT⟩ := id hA
  obtain ⟨tp, h96, et⟩ := id hE.2.2.1
  obtain ⟨w, h60, ew⟩ := id hF.2.2
  refine q_aload_n 974 dL_law_973 rfl rfl ?_
  refine q_callV 977 dL_law_974 rfl (c5_fee M  (M 31 0) hR hW hT) cw_L_109 (by decide) rfl rfl ⟨by decide, by decide⟩ hk (Nat.le_of_ble_eq_true rfl) ?_
  rintro _ M1 ⟨rfl, pz, rfl⟩
  refine q_aload_n 978 dL_law_977 rfl rfl ?_
  refine q_callV 981 dL_law_978 rfl (c6_fee _  (M 31 0) rfl hW) cw_L_113 (by decide) rfl rfl ⟨by decide, by decide⟩ hk (Nat.le_of_ble_eq_true rfl) ?_
  rintro _ M2 ⟨rfl, f, f2, rfl⟩
  refine q_icmp_eq 1576 984 dL_law_981 rfl rfl (fun _ => ?_) (fun h_981 => absurd rfl h_981)
  exact hih _ (Iv_KQ hI ((Kl.s17 M pz).q.sc f f2))
set_option maxRecDepth 100000 in
set_option maxHeartbeats 4000000 in
theorem law_fine {g : GT} {kc ks : Nat} (hk : kc ≤ 600000 ∧ ks ≤ 7302250) (hN : gN g < 2 ^ 31) (M : TM) (hI : Iv M) (p : Nat) (hp : p + 6 ≤ gN g) (hih : ∀ M2, Iv M2 → TR g room_1 RL cL_law 4 ret kc ks (ZL g) 1576 [some (.ref (gad g 52 0)), some (.ref (gad g 5 0)), some (.ref (gad g 6 0)), some (.int (nI p))] [] M2) : TR g room_1 RL cL_law 4 ret kc ks (ZL g) 986 [some (.ref (gad g 52 0)), some (.ref (gad g 5 0)), some (.ref (gad g 6 0)), some (.int (nI p))] [] M := by
  obtain ⟨hA, hB, hC, hD, hE, hF⟩ := id hI
  obtain ⟨hW, hR, hT⟩ := id hA
  obtain ⟨tp, h96, et⟩ := id hE.2.2.1
  obtain ⟨w, h60, ew⟩ := id hF.2.2
  refine q_aload_n 987 dL_law_986 rfl rfl ?_
  refine q_aload_n 988 dL_law_987 rfl rfl ?_
  refine q_iload_n 989 dL_law_988 rfl rfl ?_
  refine q_iconst (v := 1) 990 dL_law_989 rfl rfl ?_
  refine q_iadd 991 dL_law_990 rfl ?_
  refine q_sald 992 dL_law_991 rfl (nI_add p 1) (show p + 1 < gN g by omega) hN ?_
  refine q_callV 995 dL_law_992 rfl (c5_fine M _ (M 31 0) hR hW hT) cw_L_114 (by decide) rfl rfl ⟨by decide, by decide⟩ hk (Nat.le_of_ble_eq_true rfl) ?_
  rintro _ M1 ⟨rfl, pz, rfl⟩
  refine q_aload_n 996 dL_law_995 rfl rfl ?_
  refine q_aload_n 997 dL_law_996 rfl rfl ?_
  refine q_iload_n 998 dL_law_997 rfl rfl ?_
  refine q_iconst (v := 1) 999 dL_law_998 rfl rfl ?_
  refine q_iadd 1000 dL_law_999 rfl ?_
  refine q_sald 1001 dL_law_1000 rfl (nI_add p 1) (show p + 1 < gN g by omega) hN ?_
  refine q_callV 1004 dL_law_1001 rfl (c6_fine _ _ (M 31 0) rfl hW) cw_L_117 (by decide) rfl rfl ⟨by decide, by decide⟩ hk (Nat.le_of_ble_eq_true rfl) ?_
  rintro _ M2 ⟨rfl, f, f2, rfl⟩
  refine q_icmp_eq 1576 1007 dL_law_1004 rfl rfl (fun _ => ?_) (fun h_1004 => absurd rfl h_1004)
  exact hih _ (Iv_KQ hI ((Kl.s17 M pz).q.sc f f2))
set_option maxRecDepth 100000 in
set_option maxHeartbeats 4000000 in
theorem law_feed {g : GT} {kc ks : Nat} (hk : kc ≤ 600000 ∧ ks ≤ 7302250) (hN : gN g < 2 ^ 31) (M : TM) (hI : Iv M) (p : Nat) (hp : p + 6 ≤ gN g) (hih : ∀ M2, Iv M2 → TR g room_1 RL cL_law 4 ret kc ks (ZL g) 1576 [some (.ref (gad g 52 0)), some (.ref (gad g 5 0)), some (.ref (gad g 6 0)), some (.int (nI p))] [] M2) : TR g room_1 RL cL_law 4 ret kc ks (ZL g) 1009 [some (.ref (gad g 52 0)), some (.ref (gad g 5 0)), some (.ref (gad g 6 0)), some (.int (nI p))] [] M := by
  obtain ⟨hA, hB, hC, hD, hE, hF⟩ := id hI
  obtain ⟨hW, hR, hT⟩ := id hA
  obtain ⟨tp, h96, et⟩ := id hE.2.2.1
  obtain ⟨w, h60, ew⟩ := id hF.2.2
  refine q_aload_n 1010 dL_law_1009 rfl rfl ?_
  refine q_aload_n 1011 dL_law_1010 rfl rfl ?_
  refine q_iload_n 1012 dL_law_1011 rfl rfl ?_
  refine q_iconst (v := 1) 1013 dL_law_1012 rfl rfl ?_
  refine q_iadd 1014 dL_law_1013 rfl ?_
  refine q_sald 1015 dL_law_1014 rfl (nI_add p 1) (show p + 1 < gN g by omega) hN ?_
  refine q_aload_n 1016 dL_law_1015 rfl rfl ?_
  refine q_iload_n 1017 dL_law_1016 rfl rfl ?_
  refine q_iconst (v := 2) 1018 dL_law_1017 rfl rfl ?_
  refine q_iadd 1019 dL_law_1018 rfl ?_
  refine q_sald 1020 dL_law_1019 rfl (nI_add p 2) (show p + 2 < gN g by omega) hN ?_
  refine q_aload_n 1021 dL_law_1020 rfl rfl ?_
  refine q_iload_n 1022 dL_law_1021 rfl rfl ?_
  refine q_iconst (v := 3) 1023 dL_law_1022 rfl rfl ?_
  refine q_iadd 1024 dL_law_1023 rfl ?_
  refine q_sald 1025 dL_law_1024 rfl (nI_add p 3) (show p + 3 < gN g by omega) hN ?_
  refine q_callV 1028 dL_law_1025 rfl (c5_feed M _ _ _ tp (hE.2.1.trans et) h96) cw_L_118 (by decide) rfl rfl ⟨by decide, by decide⟩ hk (Nat.le_of_ble_eq_true rfl) ?_
  rintro _ M1 ⟨rfl, m1⟩
  refine q_aload_n 1029 dL_law_1028 rfl rfl ?_
  refine q_aload_n 1030 dL_law_1029 rfl rfl ?_
  refine q_iload_n 1031 dL_law_1030 rfl rfl ?_
  refine q_iconst (v := 1) 1032 dL_law_1031 rfl rfl ?_
  refine q_iadd 1033 dL_law_1032 rfl ?_
  refine q_sald 1034 dL_law_1033 rfl (nI_add p 1) (show p + 1 < gN g by omega) hN ?_
  refine q_aload_n 1035 dL_law_1034 rfl rfl ?_
  refine q_iload_n 1036 dL_law_1035 rfl rfl ?_
  refine q_iconst (v := 2) 1037 dL_law_1036 rfl rfl ?_
  refine q_iadd 1038 dL_law_1037 rfl ?_
  refine q_sald 1039 dL_law_1038 rfl (nI_add p 2) (show p + 2 < gN g by omega) hN ?_
  refine q_aload_n 1040 dL_law_1039 rfl rfl ?_
  refine q_iload_n 1041 dL_law_1040 rfl rfl ?_
  refine q_iconst (v := 3) 1042 dL_law_1041 rfl rfl ?_
  refine q_iadd 1043 dL_law_1042 rfl ?_
  refine q_sald 1044 dL_law_1043 rfl (nI_add p 3) (show p + 3 < gN g by omega) hN ?_
  refine q_callV 1047 dL_law_1044 rfl (c6_feed M1 _ _ _ tp (l_feed hI et m1).1 h96) cw_L_121 (by decide) rfl rfl ⟨by decide, by decide⟩ hk (Nat.le_of_ble_eq_true rfl) ?_
  rintro _ M2 ⟨rfl, m2⟩
  refine q_icmp_eq 1576 1050 dL_law_1047 rfl rfl (fun _ => ?_) (fun h_1047 => absurd rfl h_1047)
  exact hih _ ((l_feed hI et m1).2 _ m2)
set_option maxRecDepth 100000 in
set_option maxHeartbeats 4000000 in
theorem law_trim {g : GT} {kc ks : Nat} (hk : kc ≤ 600000 ∧ ks ≤ 7302250) (hN : gN g < 2 ^ 31) (M : TM) (hI : Iv M) (p : Nat) (hp : p + 6 ≤ gN g) (hih : ∀ M2, Iv M2 → TR g room_1 RL cL_law 4 ret kc ks (ZL g) 1576 [some (.ref (gad g 52 0)), some (.ref (gad g 5 0)), some (.ref (gad g 6 0)), some (.int (nI p))] [] M2) : TR g room_1 RL cL_law 4 ret kc ks (ZL g) 1052 [some (.ref (gad g 52 0)), some (.ref (gad g 5 0)), some (.ref (gad g 6 0)), some (.int (nI p))] [] M := by
  obtain ⟨hA, hB, hC, hD, hE, hF⟩ := id hI
  obtain ⟨hW, hR, hT⟩ := id hA
  obtain ⟨tp, h96, et⟩ := id hE.2.2.1
  obtain ⟨w, h60, ew⟩ := id hF.2.2
  refine q_aload_n 1053 dL_law_1052 rfl rfl ?_
  refine q_aload_n 1054 dL_law_1053 rfl rfl ?_
  refine q_iload_n 1055 dL_law_1054 rfl rfl ?_
  refine q_iconst (v := 1) 1056 dL_law_1055 rfl rfl ?_
  refine q_iadd 1057 dL_law_1056 rfl ?_
  refine q_sald 1058 dL_law_1057 rfl (nI_add p 1) (show p + 1 < gN g by omega) hN ?_
  refine q_callV 1061 dL_law_1058 rfl (c5_trim M _) cw_L_122 (by decide) rfl rfl ⟨by decide, by decide⟩ hk (Nat.le_of_ble_eq_true rfl) ?_
  rintro _ M1 ⟨rfl, m1⟩
  refine q_aload_n 1062 dL_law_1061 rfl rfl ?_
  refine q_aload_n 1063 dL_law_1062 rfl rfl ?_
  refine q_iload_n 1064 dL_law_1063 rfl rfl ?_
  refine q_iconst (v := 1) 1065 dL_law_1064 rfl rfl ?_
  refine q_iadd 1066 dL_law_1065 rfl ?_
  refine q_sald 1067 dL_law_1066 rfl (nI_add p 1) (show p + 1 < gN g by omega) hN ?_
  refine q_callV 1070 dL_law_1067 rfl (c6_trim M1 _) cw_L_125 (by decide) rfl rfl ⟨by decide, by decide⟩ hk (Nat.le_of_ble_eq_true rfl) ?_
  rintro _ M2 ⟨rfl, m2⟩
  refine q_icmp_eq 1576 1073 dL_law_1070 rfl rfl (fun _ => ?_) (fun h_1070 => absurd (by rw [(l_trim hI m1).1]) h_1070)
  exact hih _ ((l_trim hI m1).2 _ m2)
set_option maxRecDepth 100000 in
set_option maxHeartbeats 4000000 in
theorem law_text {g : GT} {kc ks : Nat} (hk : kc ≤ 600000 ∧ ks ≤ 7302250) (hN : gN g < 2 ^ 31) (M : TM) (hI : Iv M) (p : Nat) (hp : p + 6 ≤ gN g) (hih : ∀ M2, Iv M2 → TR g room_1 RL cL_law 4 ret kc ks (ZL g) 1576 [some (.ref (gad g 52 0)), some (.ref (gad g 5 0)), some (.ref (gad g 6 0)), some (.int (nI p))] [] M2) : TR g room_1 RL cL_law 4 ret kc ks (ZL g) 1075 [some (.ref (gad g 52 0)), some (.ref (gad g 5 0)), some (.ref (gad g 6 0)), some (.int (nI p))] [] M := by
  obtain ⟨hA, hB, hC, hD, hE, hF⟩ := id hI
  obtain ⟨hW, hR, hT⟩ := id hA
  obtain ⟨tp, h96, et⟩ := id hE.2.2.1
  obtain ⟨w, h60, ew⟩ := id hF.2.2
  refine q_aload_n 1076 dL_law_1075 rfl rfl ?_
  refine q_callV 1079 dL_law_1076 rfl (c5_text M (M 43 0) tp hE.1 (hE.2.1.trans et) h96 (fun i _ => hE.2.2.2 i) (M 31 0) hR.2.2 hW.2.2.2.2.2.2.1) cw_L_126 (by decide) rfl rfl ⟨by decide, by decide⟩ hk (Nat.le_of_ble_eq_true rfl) ?_
  rintro r5 M1 hq5
  obtain rfl := hq5.1
  refine q_aload_n 1080 dL_law_1079 rfl rfl ?_
  refine q_callV 1083 dL_law_1080 rfl (c6_text M1 (M 43 0) tp (tx5_f hq5).1 (by rw [(tx5_f hq5).2.1]; exact et) h96 (M 31 0) (tx5_f hq5).2.2 hW.2.2.2.2.2.1 hW.2.2.2.2.2.2.1) cw_L_129 (by decide) rfl rfl ⟨by decide, by decide⟩ hk (Nat.le_of_ble_eq_true rfl) ?_
  rintro r6 M2 hq6
  obtain rfl := hq6.1
  refine q_icmp_eq 1576 1086 dL_law_1083 rfl rfl (fun _ => ?_) (fun h_1083 => absurd rfl h_1083)
  exact hih _ (Iv_text hI h96 _ _ hq5 hq6)
set_option maxRecDepth 100000 in
set_option maxHeartbeats 4000000 in
theorem law_textTold {g : GT} {kc ks : Nat} (hk : kc ≤ 600000 ∧ ks ≤ 7302250) (hN : gN g < 2 ^ 31) (M : TM) (hI : Iv M) (p : Nat) (hp : p + 6 ≤ gN g) (hih : ∀ M2, Iv M2 → TR g room_1 RL cL_law 4 ret kc ks (ZL g) 1576 [some (.ref (gad g 52 0)), some (.ref (gad g 5 0)), some (.ref (gad g 6 0)), some (.int (nI p))] [] M2) : TR g room_1 RL cL_law 4 ret kc ks (ZL g) 1088 [some (.ref (gad g 52 0)), some (.ref (gad g 5 0)), some (.ref (gad g 6 0)), some (.int (nI p))] [] M := by
  obtain ⟨hA, hB, hC, hD, hE, hF⟩ := id hI
  obtain ⟨hW, hR, hT⟩ := id hA
  obtain ⟨tp, h96, et⟩ := id hE.2.2.1
  obtain ⟨w, h60, ew⟩ := id hF.2.2
  refine q_aload_n 1089 dL_law_1088 rfl rfl ?_
  refine q_aload_n 1090 dL_law_1089 rfl rfl ?_
  refine q_iload_n 1091 dL_law_1090 rfl rfl ?_
  refine q_iconst (v := 1) 1092 dL_law_1091 rfl rfl ?_
  refine q_iadd 1093 dL_law_1092 rfl ?_
  refine q_sald 1094 dL_law_1093 rfl (nI_add p 1) (show p + 1 < gN g by omega) hN ?_
  refine q_aload_n 1095 dL_law_1094 rfl rfl ?_
  refine q_iload_n 1096 dL_law_1095 rfl rfl ?_
  refine q_iconst (v := 2) 1097 dL_law_1096 rfl rfl ?_
  refine q_iadd 1098 dL_law_1097 rfl ?_
  refine q_sald 1099 dL_law_1098 rfl (nI_add p 2) (show p + 2 < gN g by omega) hN ?_
  refine q_callV 1102 dL_law_1099 rfl (c5_textTold M _ _ (M 31 0) hR hW hT) cw_L_130 (by decide) rfl rfl ⟨by decide, by decide⟩ hk (Nat.le_of_ble_eq_true rfl) ?_
  rintro _ M1 ⟨rfl, m1z⟩
  subst M1
  refine q_aload_n 1103 dL_law_1102 rfl rfl ?_
  refine q_aload_n 1104 dL_law_1103 rfl rfl ?_
  refine q_iload_n 1105 dL_law_1104 rfl rfl ?_
  refine q_iconst (v := 1) 1106 dL_law_1105 rfl rfl ?_
  refine q_iadd 1107 dL_law_1106 rfl ?_
  refine q_sald 1108 dL_law_1107 rfl (nI_add p 1) (show p + 1 < gN g by omega) hN ?_
  refine q_aload_n 1109 dL_law_1108 rfl rfl ?_
  refine q_iload_n 1110 dL_law_1109 rfl rfl ?_
  refine q_iconst (v := 2) 1111 dL_law_1110 rfl rfl ?_
  refine q_iadd 1112 dL_law_1111 rfl ?_
  refine q_sald 1113 dL_law_1112 rfl (nI_add p 2) (show p + 2 < gN g by omega) hN ?_
  refine q_callV 1116 dL_law_1113 rfl (c6_textTold M _ _ (M 31 0) rfl hW.2.2.2.2.2) cw_L_133 (by decide) rfl rfl ⟨by decide, by decide⟩ hk (Nat.le_of_ble_eq_true rfl) ?_
  rintro _ M2 ⟨rfl, rfl⟩
  refine q_icmp_eq 1576 1119 dL_law_1116 rfl rfl (fun _ => ?_) (fun h_1116 => absurd rfl h_1116)
  exact hih _ hI
set_option maxRecDepth 100000 in
set_option maxHeartbeats 4000000 in
theorem law_why {g : GT} {kc ks : Nat} (hk : kc ≤ 600000 ∧ ks ≤ 7302250) (hN : gN g < 2 ^ 31) (M : TM) (hI : Iv M) (p : Nat) (hp : p + 6 ≤ gN g) (hih : ∀ M2, Iv M2 → TR g room_1 RL cL_law 4 ret kc ks (ZL g) 1576 [some (.ref (gad g 52 0)), some (.ref (gad g 5 0)), some (.ref (gad g 6 0)), some (.int (nI p))] [] M2) : TR g room_1 RL cL_law 4 ret kc ks (ZL g) 1121 [some (.ref (gad g 52 0)), some (.ref (gad g 5 0)), some (.ref (gad g 6 0)), some (.int (nI p))] [] M := by
  obtain ⟨hA, hB, hC, hD, hE, hF⟩ := id hI
  obtain ⟨hW, hR, hT⟩ := id hA
  obtain ⟨tp, h96, et⟩ := id hE.2.2.1
  obtain ⟨w, h60, ew⟩ := id hF.2.2
  refine q_aload_n 1122 dL_law_1121 rfl rfl ?_
  refine q_aload_n 1123 dL_law_1122 rfl rfl ?_
  refine q_iload_n 1124 dL_law_1123 rfl rfl ?_
  refine q_iconst (v := 1) 1125 dL_law_1124 rfl rfl ?_
  refine q_iadd 1126 dL_law_1125 rfl ?_
  refine q_sald 1127 dL_law_1126 rfl (nI_add p 1) (show p + 1 < gN g by omega) hN ?_
  refine q_callV 1130 dL_law_1127 rfl (c5_why M _ (M 31 0) hR hW hT) cw_L_134 (by decide) rfl rfl ⟨by decide, by decide⟩ hk (Nat.le_of_ble_eq_true rfl) ?_
  rintro _ M1 ⟨rfl, m1z⟩
  subst M1
  refine q_aload_n 1131 dL_law_1130 rfl rfl ?_
  refine q_aload_n 1132 dL_law_1131 rfl rfl ?_
  refine q_iload_n 1133 dL_law_1132 rfl rfl ?_
  refine q_iconst (v := 1) 1134 dL_law_1133 rfl rfl ?_
  refine q_iadd 1135 dL_law_1134 rfl ?_
  refine q_sald 1136 dL_law_1135 rfl (nI_add p 1) (show p + 1 < gN g by omega) hN ?_
  refine q_callV 1139 dL_law_1136 rfl (c6_why M _ (M 31 0) rfl hW.2.2.2.2.2) cw_L_137 (by decide) rfl rfl ⟨by decide, by decide⟩ hk (Nat.le_of_ble_eq_true rfl) ?_
  rintro _ M2 ⟨rfl, rfl⟩
  refine q_icmp_eq 1576 1142 dL_law_1139 rfl rfl (fun _ => ?_) (fun h_1139 => absurd rfl h_1139)
  exact hih _ hI
