/-! the law: cases 3 -/
theorem dL_law_685 : decode code 685 = .ok (.aload_n 1, 1) := by decide +kernel
theorem dL_law_686 : decode code 686 = .ok (.aload_n 0, 1) := by decide +kernel
theorem dL_law_687 : decode code 687 = .ok (.iload 4, 2) := by decide +kernel
theorem dL_law_689 : decode code 689 = .ok (.iconst 1, 1) := by decide +kernel
theorem dL_law_690 : decode code 690 = .ok (.iadd, 1) := by decide +kernel
theorem dL_law_691 : decode code 691 = .ok (.iaload, 1) := by decide +kernel
theorem dL_law_692 : decode code 692 = .ok (.aload_n 3, 1) := by decide +kernel
theorem dL_law_693 : decode code 693 = .ok (.invokestatic 113, 3) := by decide +kernel
theorem dL_law_696 : decode code 696 = .ok (.istore 5, 2) := by decide +kernel
theorem dL_law_698 : decode code 698 = .ok (.aload_n 2, 1) := by decide +kernel
theorem dL_law_699 : decode code 699 = .ok (.aload_n 0, 1) := by decide +kernel
theorem dL_law_700 : decode code 700 = .ok (.iload 4, 2) := by decide +kernel
theorem dL_law_702 : decode code 702 = .ok (.iconst 1, 1) := by decide +kernel
theorem dL_law_703 : decode code 703 = .ok (.iadd, 1) := by decide +kernel
theorem dL_law_704 : decode code 704 = .ok (.iaload, 1) := by decide +kernel
theorem dL_law_705 : decode code 705 = .ok (.invokevirtual 115, 3) := by decide +kernel
theorem dL_law_708 : decode code 708 = .ok (.istore 6, 2) := by decide +kernel
theorem dL_law_710 : decode code 710 = .ok (.aload_n 2, 1) := by decide +kernel
theorem dL_law_711 : decode code 711 = .ok (.invokevirtual 84, 3) := by decide +kernel
theorem dL_law_714 : decode code 714 = .ok (.iload 5, 2) := by decide +kernel
theorem dL_law_716 : decode code 716 = .ok (.if_icmp .eq 5, 3) := by decide +kernel
theorem dL_law_719 : decode code 719 = .ok (.iconst 0, 1) := by decide +kernel
theorem dL_law_720 : decode code 720 = .ok (.ireturn, 1) := by decide +kernel
theorem dL_law_721 : decode code 721 = .ok (.iload 5, 2) := by decide +kernel
theorem dL_law_723 : decode code 723 = .ok (.ifCond .ne 15, 3) := by decide +kernel
theorem dL_law_726 : decode code 726 = .ok (.aload_n 3, 1) := by decide +kernel
theorem dL_law_727 : decode code 727 = .ok (.iconst 0, 1) := by decide +kernel
theorem dL_law_728 : decode code 728 = .ok (.laload, 1) := by decide +kernel
theorem dL_law_729 : decode code 729 = .ok (.iload 6, 2) := by decide +kernel
theorem dL_law_731 : decode code 731 = .ok (.i2l, 1) := by decide +kernel
theorem dL_law_732 : decode code 732 = .ok (.lcmp, 1) := by decide +kernel
theorem dL_law_733 : decode code 733 = .ok (.ifCond .eq 5, 3) := by decide +kernel
theorem dL_law_736 : decode code 736 = .ok (.iconst 0, 1) := by decide +kernel
theorem dL_law_737 : decode code 737 = .ok (.ireturn, 1) := by decide +kernel
theorem dL_law_738 : decode code 738 = .ok (.goto 674, 3) := by decide +kernel
theorem dL_law_741 : decode code 741 = .ok (.aload_n 1, 1) := by decide +kernel
theorem dL_law_742 : decode code 742 = .ok (.invokevirtual 116, 3) := by decide +kernel
theorem dL_law_745 : decode code 745 = .ok (.aload_n 2, 1) := by decide +kernel
theorem dL_law_746 : decode code 746 = .ok (.invokevirtual 119, 3) := by decide +kernel
theorem dL_law_749 : decode code 749 = .ok (.if_icmp .eq 663, 3) := by decide +kernel
theorem dL_law_752 : decode code 752 = .ok (.iconst 0, 1) := by decide +kernel
theorem dL_law_753 : decode code 753 = .ok (.ireturn, 1) := by decide +kernel
theorem dL_law_754 : decode code 754 = .ok (.aload_n 1, 1) := by decide +kernel
theorem dL_law_755 : decode code 755 = .ok (.invokevirtual 120, 3) := by decide +kernel
theorem dL_law_758 : decode code 758 = .ok (.aload_n 2, 1) := by decide +kernel
theorem dL_law_759 : decode code 759 = .ok (.invokevirtual 123, 3) := by decide +kernel
theorem dL_law_762 : decode code 762 = .ok (.if_icmp .eq 650, 3) := by decide +kernel
theorem dL_law_765 : decode code 765 = .ok (.iconst 0, 1) := by decide +kernel
theorem dL_law_766 : decode code 766 = .ok (.ireturn, 1) := by decide +kernel
theorem dL_law_767 : decode code 767 = .ok (.aload_n 1, 1) := by decide +kernel
theorem dL_law_768 : decode code 768 = .ok (.aload_n 3, 1) := by decide +kernel
theorem dL_law_769 : decode code 769 = .ok (.invokestatic 124, 3) := by decide +kernel
theorem dL_law_772 : decode code 772 = .ok (.istore 5, 2) := by decide +kernel
theorem dL_law_774 : decode code 774 = .ok (.aload_n 2, 1) := by decide +kernel
theorem dL_law_775 : decode code 775 = .ok (.invokevirtual 127, 3) := by decide +kernel
theorem dL_law_778 : decode code 778 = .ok (.istore 6, 2) := by decide +kernel
theorem dL_law_780 : decode code 780 = .ok (.aload_n 2, 1) := by decide +kernel
theorem dL_law_781 : decode code 781 = .ok (.invokevirtual 84, 3) := by decide +kernel
theorem dL_law_784 : decode code 784 = .ok (.iload 5, 2) := by decide +kernel
theorem dL_law_786 : decode code 786 = .ok (.if_icmp .eq 5, 3) := by decide +kernel
theorem dL_law_789 : decode code 789 = .ok (.iconst 0, 1) := by decide +kernel
theorem dL_law_790 : decode code 790 = .ok (.ireturn, 1) := by decide +kernel
theorem dL_law_791 : decode code 791 = .ok (.iload 5, 2) := by decide +kernel
theorem dL_law_793 : decode code 793 = .ok (.ifCond .ne 15, 3) := by decide +kernel
theorem dL_law_796 : decode code 796 = .ok (.aload_n 3, 1) := by decide +kernel
theorem dL_law_797 : decode code 797 = .ok (.iconst 0, 1) := by decide +kernel
theorem dL_law_798 : decode code 798 = .ok (.laload, 1) := by decide +kernel
theorem dL_law_799 : decode code 799 = .ok (.iload 6, 2) := by decide +kernel
theorem dL_law_801 : decode code 801 = .ok (.i2l, 1) := by decide +kernel
theorem dL_law_802 : decode code 802 = .ok (.lcmp, 1) := by decide +kernel
theorem dL_law_803 : decode code 803 = .ok (.ifCond .eq 5, 3) := by decide +kernel
theorem dL_law_806 : decode code 806 = .ok (.iconst 0, 1) := by decide +kernel
theorem dL_law_807 : decode code 807 = .ok (.ireturn, 1) := by decide +kernel
theorem dL_law_808 : decode code 808 = .ok (.goto 604, 3) := by decide +kernel
theorem dL_law_811 : decode code 811 = .ok (.aload_n 1, 1) := by decide +kernel
theorem dL_law_812 : decode code 812 = .ok (.aload_n 3, 1) := by decide +kernel
theorem dL_law_813 : decode code 813 = .ok (.invokestatic 128, 3) := by decide +kernel
theorem dL_law_816 : decode code 816 = .ok (.istore 5, 2) := by decide +kernel
theorem dL_law_818 : decode code 818 = .ok (.aload_n 2, 1) := by decide +kernel
theorem dL_law_819 : decode code 819 = .ok (.invokevirtual 130, 3) := by decide +kernel
theorem dL_law_822 : decode code 822 = .ok (.istore 6, 2) := by decide +kernel
theorem dL_law_824 : decode code 824 = .ok (.aload_n 2, 1) := by decide +kernel
theorem dL_law_825 : decode code 825 = .ok (.invokevirtual 84, 3) := by decide +kernel
theorem dL_law_828 : decode code 828 = .ok (.iload 5, 2) := by decide +kernel
theorem dL_law_830 : decode code 830 = .ok (.if_icmp .eq 5, 3) := by decide +kernel
theorem dL_law_833 : decode code 833 = .ok (.iconst 0, 1) := by decide +kernel
theorem dL_law_834 : decode code 834 = .ok (.ireturn, 1) := by decide +kernel
theorem dL_law_835 : decode code 835 = .ok (.iload 5, 2) := by decide +kernel
theorem dL_law_837 : decode code 837 = .ok (.ifCond .ne 15, 3) := by decide +kernel
theorem dL_law_840 : decode code 840 = .ok (.aload_n 3, 1) := by decide +kernel
theorem dL_law_841 : decode code 841 = .ok (.iconst 0, 1) := by decide +kernel
theorem dL_law_842 : decode code 842 = .ok (.laload, 1) := by decide +kernel
theorem dL_law_843 : decode code 843 = .ok (.iload 6, 2) := by decide +kernel
theorem dL_law_845 : decode code 845 = .ok (.i2l, 1) := by decide +kernel
theorem dL_law_846 : decode code 846 = .ok (.lcmp, 1) := by decide +kernel
theorem dL_law_847 : decode code 847 = .ok (.ifCond .eq 5, 3) := by decide +kernel
theorem dL_law_850 : decode code 850 = .ok (.iconst 0, 1) := by decide +kernel
theorem dL_law_851 : decode code 851 = .ok (.ireturn, 1) := by decide +kernel
theorem dL_law_852 : decode code 852 = .ok (.goto 560, 3) := by decide +kernel
theorem dL_law_855 : decode code 855 = .ok (.aload_n 1, 1) := by decide +kernel
theorem dL_law_856 : decode code 856 = .ok (.aload_n 0, 1) := by decide +kernel
theorem dL_law_857 : decode code 857 = .ok (.iload 4, 2) := by decide +kernel
theorem dL_law_859 : decode code 859 = .ok (.iconst 1, 1) := by decide +kernel
theorem dL_law_860 : decode code 860 = .ok (.iadd, 1) := by decide +kernel
theorem dL_law_861 : decode code 861 = .ok (.iaload, 1) := by decide +kernel
theorem dL_law_862 : decode code 862 = .ok (.aload_n 0, 1) := by decide +kernel
theorem dL_law_863 : decode code 863 = .ok (.iload 4, 2) := by decide +kernel
theorem dL_law_865 : decode code 865 = .ok (.iconst 2, 1) := by decide +kernel
theorem dL_law_866 : decode code 866 = .ok (.iadd, 1) := by decide +kernel
theorem dL_law_867 : decode code 867 = .ok (.iaload, 1) := by decide +kernel
theorem dL_law_868 : decode code 868 = .ok (.aload_n 3, 1) := by decide +kernel
theorem dL_law_869 : decode code 869 = .ok (.invokestatic 131, 3) := by decide +kernel
theorem dL_law_872 : decode code 872 = .ok (.istore 5, 2) := by decide +kernel
theorem dL_law_874 : decode code 874 = .ok (.aload_n 2, 1) := by decide +kernel
theorem dL_law_875 : decode code 875 = .ok (.aload_n 0, 1) := by decide +kernel
theorem dL_law_876 : decode code 876 = .ok (.iload 4, 2) := by decide +kernel
theorem dL_law_878 : decode code 878 = .ok (.iconst 1, 1) := by decide +kernel
theorem dL_law_879 : decode code 879 = .ok (.iadd, 1) := by decide +kernel
theorem dL_law_880 : decode code 880 = .ok (.iaload, 1) := by decide +kernel
theorem dL_law_881 : decode code 881 = .ok (.aload_n 0, 1) := by decide +kernel
theorem dL_law_882 : decode code 882 = .ok (.iload 4, 2) := by decide +kernel
theorem dL_law_884 : decode code 884 = .ok (.iconst 2, 1) := by decide +kernel
theorem dL_law_885 : decode code 885 = .ok (.iadd, 1) := by decide +kernel
theorem dL_law_886 : decode code 886 = .ok (.iaload, 1) := by decide +kernel
theorem dL_law_887 : decode code 887 = .ok (.invokevirtual 133, 3) := by decide +kernel
theorem dL_law_890 : decode code 890 = .ok (.istore 6, 2) := by decide +kernel
theorem dL_law_892 : decode code 892 = .ok (.aload_n 2, 1) := by decide +kernel
theorem dL_law_893 : decode code 893 = .ok (.invokevirtual 84, 3) := by decide +kernel
theorem dL_law_896 : decode code 896 = .ok (.iload 5, 2) := by decide +kernel
theorem dL_law_898 : decode code 898 = .ok (.if_icmp .eq 5, 3) := by decide +kernel
theorem dL_law_901 : decode code 901 = .ok (.iconst 0, 1) := by decide +kernel
theorem dL_law_902 : decode code 902 = .ok (.ireturn, 1) := by decide +kernel
theorem dL_law_903 : decode code 903 = .ok (.iload 5, 2) := by decide +kernel
theorem dL_law_905 : decode code 905 = .ok (.ifCond .ne 15, 3) := by decide +kernel
theorem dL_law_908 : decode code 908 = .ok (.aload_n 3, 1) := by decide +kernel
theorem dL_law_909 : decode code 909 = .ok (.iconst 0, 1) := by decide +kernel
theorem dL_law_910 : decode code 910 = .ok (.laload, 1) := by decide +kernel
theorem dL_law_911 : decode code 911 = .ok (.iload 6, 2) := by decide +kernel
theorem dL_law_913 : decode code 913 = .ok (.i2l, 1) := by decide +kernel
theorem dL_law_914 : decode code 914 = .ok (.lcmp, 1) := by decide +kernel
theorem dL_law_915 : decode code 915 = .ok (.ifCond .eq 5, 3) := by decide +kernel
theorem dL_law_918 : decode code 918 = .ok (.iconst 0, 1) := by decide +kernel
theorem dL_law_919 : decode code 919 = .ok (.ireturn, 1) := by decide +kernel
theorem dL_law_920 : decode code 920 = .ok (.goto 492, 3) := by decide +kernel
theorem dL_law_923 : decode code 923 = .ok (.aload_n 1, 1) := by decide +kernel
theorem dL_law_924 : decode code 924 = .ok (.aload_n 0, 1) := by decide +kernel
theorem dL_law_925 : decode code 925 = .ok (.iload 4, 2) := by decide +kernel
theorem dL_law_927 : decode code 927 = .ok (.iconst 1, 1) := by decide +kernel
theorem dL_law_928 : decode code 928 = .ok (.iadd, 1) := by decide +kernel
theorem dL_law_929 : decode code 929 = .ok (.iaload, 1) := by decide +kernel
theorem dL_law_930 : decode code 930 = .ok (.aload_n 3, 1) := by decide +kernel
theorem dL_law_931 : decode code 931 = .ok (.invokestatic 134, 3) := by decide +kernel
theorem dL_law_934 : decode code 934 = .ok (.istore 5, 2) := by decide +kernel
theorem dL_law_936 : decode code 936 = .ok (.aload_n 2, 1) := by decide +kernel
theorem dL_law_937 : decode code 937 = .ok (.aload_n 0, 1) := by decide +kernel
theorem dL_law_938 : decode code 938 = .ok (.iload 4, 2) := by decide +kernel
theorem dL_law_940 : decode code 940 = .ok (.iconst 1, 1) := by decide +kernel
theorem dL_law_941 : decode code 941 = .ok (.iadd, 1) := by decide +kernel
theorem dL_law_942 : decode code 942 = .ok (.iaload, 1) := by decide +kernel
theorem dL_law_943 : decode code 943 = .ok (.invokevirtual 136, 3) := by decide +kernel
theorem dL_law_946 : decode code 946 = .ok (.istore 6, 2) := by decide +kernel
theorem dL_law_948 : decode code 948 = .ok (.aload_n 2, 1) := by decide +kernel
theorem dL_law_949 : decode code 949 = .ok (.invokevirtual 84, 3) := by decide +kernel
theorem dL_law_952 : decode code 952 = .ok (.iload 5, 2) := by decide +kernel
theorem dL_law_954 : decode code 954 = .ok (.if_icmp .eq 5, 3) := by decide +kernel
theorem dL_law_957 : decode code 957 = .ok (.iconst 0, 1) := by decide +kernel
theorem dL_law_958 : decode code 958 = .ok (.ireturn, 1) := by decide +kernel
theorem dL_law_959 : decode code 959 = .ok (.iload 5, 2) := by decide +kernel
theorem dL_law_961 : decode code 961 = .ok (.ifCond .ne 15, 3) := by decide +kernel
theorem dL_law_964 : decode code 964 = .ok (.aload_n 3, 1) := by decide +kernel
theorem dL_law_965 : decode code 965 = .ok (.iconst 0, 1) := by decide +kernel
theorem dL_law_966 : decode code 966 = .ok (.laload, 1) := by decide +kernel
theorem dL_law_967 : decode code 967 = .ok (.iload 6, 2) := by decide +kernel
theorem dL_law_969 : decode code 969 = .ok (.i2l, 1) := by decide +kernel
theorem dL_law_970 : decode code 970 = .ok (.lcmp, 1) := by decide +kernel
theorem dL_law_971 : decode code 971 = .ok (.ifCond .eq 5, 3) := by decide +kernel
theorem dL_law_974 : decode code 974 = .ok (.iconst 0, 1) := by decide +kernel
theorem dL_law_975 : decode code 975 = .ok (.ireturn, 1) := by decide +kernel
theorem dL_law_976 : decode code 976 = .ok (.goto 436, 3) := by decide +kernel
section ZW
variable {p : Program} {l : Launch} {e : Env} {s : State} {m : MethodId} {args : Array Value} {below : List Frame} {meth : Method} {c : Code} {Q : State → Prop} {G : zG} {b L : Nat} {xs : Nat → Int32}

set_option maxHeartbeats 4000000 in
set_option maxRecDepth 100000 in
theorem law_append (C : zLw p l s m args meth c G b L xs) {S : zM} {n i : Int} {H : Heap} {locs : List Loc} {cells slots : Nat} {ls : Array Slot} (hI : zInv S n) (hn : n ≤ 600) (hi : 0 ≤ i ∧ i + 4 < L) (hH : zH G S s H locs) (hls : lv_has ls 9 [(0, .ref b), (1, .ref (za G 8 0)), (2, .ref (za G 9 0)), (3, .ref (za G 8 5)), (4, .int (zI i))]) (hcs : cells + 1 ≤ 629837 ∧ slots + 6 ≤ 7206592)
    (K : ∀ (S' : zM) (ls' : Array Slot), zInv S' (n + 1) → lv_has ls' 9 [(0, .ref b), (1, .ref (za G 8 0)), (2, .ref (za G 9 0)), (3, .ref (za G 8 5)), (4, .int (zI i))] → ∀ (H1 : Heap) (locs1 : List Loc), zH G S' s H1 locs1 → W p l e room_1 s m args below meth c H1 locs1 (cells + 1) (slots + 6) Q (F0 m 1412 ls' [])) :
    W p l e room_1 s m args below meth c H locs cells slots Q (F0 m 685 ls []) := by
  have h := C.h
  have f := zRl_of hI (by omega)
  have hL := C.hL
  refine lv_aload_n h.1 h.2.1 dL_law_685 rfl (lv_at hls 1 rfl) ?_
  refine lv_aload_n h.1 h.2.1 dL_law_686 rfl (lv_at hls 0 rfl) ?_
  refine lv_iload h.1 h.2.1 dL_law_687 (lv_at hls 4 rfl) ?_
  refine zb_ic h dL_law_689 ?_
  refine zb_iadd h dL_law_690 ?_
  refine zld C hH (i := (i + 1)) (by omega) dL_law_691 ?_
  refine lv_aload_n h.1 h.2.1 dL_law_692 rfl (lv_at hls 3 rfl) ?_
  refine zcXS h C.hX hH (n := 3) (As := [.ref (za G 8 0), .int (zI (zx xs (i + 1))), .ref (za G 8 5)]) (rest := []) (c_L_append l C.hl G h.2.2.2.2.2.2.2 S (zx xs (i + 1)) (zx_in _ _) f.len) zc_L_append zn_L ⟨by decide, by decide⟩ (by decide +kernel) zt_L_append zm_L_113 hls.1 rfl rfl ⟨rfl, rfl⟩ ⟨Nat.le_of_ble_eq_true rfl, Nat.le_of_ble_eq_true rfl⟩ (Nat.le_of_ble_eq_true rfl) hcs dL_law_693 (fun r_1 S_1 H locs hq1 hH => ?_)
  have e9 := k9_append hq1
  have fx := zRx_of hI e9
  refine lv_istore (lv' := [(5, .int r_1), (0, .ref b), (1, .ref (za G 8 0)), (2, .ref (za G 9 0)), (3, .ref (za G 8 5)), (4, .int (zI i))]) h.1 h.2.1 dL_law_696 hls (by decide) rfl (fun ls hls => ?_)
  refine lv_aload_n h.1 h.2.1 dL_law_698 rfl (lv_at hls 3 rfl) ?_
  refine lv_aload_n h.1 h.2.1 dL_law_699 rfl (lv_at hls 1 rfl) ?_
  refine lv_iload h.1 h.2.1 dL_law_700 (lv_at hls 5 rfl) ?_
  refine zb_ic h dL_law_702 ?_
  refine zb_iadd h dL_law_703 ?_
  refine zld C hH (i := (i + 1)) (by omega) dL_law_704 ?_
  refine zcVi h hH (zr_5 h hH) (As := [.int (zI (zx xs (i + 1)))]) (rest := []) (c_X5_append l G h.2.2.2.2.2.2.2 S_1 (zx xs (i + 1)) (zx_in _ _) fx.len) zce_X5_append zcv_X5_append zm_L_115 hls.1 rfl rfl ⟨rfl, rfl⟩ ⟨Nat.le_of_ble_eq_true rfl, Nat.le_of_ble_eq_true rfl⟩ (Nat.le_of_ble_eq_true rfl) hcs dL_law_705 (fun r_2 S_2 H locs hq2 hH => ?_)
  refine lv_istore (lv' := [(6, .int r_2), (5, .int r_1), (0, .ref b), (1, .ref (za G 8 0)), (2, .ref (za G 9 0)), (3, .ref (za G 8 5)), (4, .int (zI i))]) h.1 h.2.1 dL_law_708 hls (by decide) rfl (fun ls hls => ?_)
  exact ztail C (g_append hI hq1 hq2) hH hls hcs dL_law_710 dL_law_711 dL_law_714 dL_law_716 dL_law_721 dL_law_723 dL_law_726 dL_law_727 dL_law_728 dL_law_729 dL_law_731 dL_law_732 dL_law_733 dL_law_738 (by decide) K
set_option maxHeartbeats 4000000 in
set_option maxRecDepth 100000 in
theorem law_clearBuffer (C : zLw p l s m args meth c G b L xs) {S : zM} {n i : Int} {H : Heap} {locs : List Loc} {cells slots : Nat} {ls : Array Slot} (hI : zInv S n) (hn : n ≤ 600) (hi : 0 ≤ i ∧ i + 4 < L) (hH : zH G S s H locs) (hls : lv_has ls 9 [(0, .ref b), (1, .ref (za G 8 0)), (2, .ref (za G 9 0)), (3, .ref (za G 8 5)), (4, .int (zI i))]) (hcs : cells + 1 ≤ 629837 ∧ slots + 6 ≤ 7206592)
    (K : ∀ (S' : zM) (ls' : Array Slot), zInv S' (n + 1) → lv_has ls' 9 [(0, .ref b), (1, .ref (za G 8 0)), (2, .ref (za G 9 0)), (3, .ref (za G 8 5)), (4, .int (zI i))] → ∀ (H1 : Heap) (locs1 : List Loc), zH G S' s H1 locs1 → W p l e room_1 s m args below meth c H1 locs1 (cells + 1) (slots + 6) Q (F0 m 1412 ls' [])) :
    W p l e room_1 s m args below meth c H locs cells slots Q (F0 m 741 ls []) := by
  have h := C.h
  have f := zRl_of hI (by omega)
  have hL := C.hL
  refine lv_aload_n h.1 h.2.1 dL_law_741 rfl (lv_at hls 1 rfl) ?_
  refine zcVi h hH (zr_4 h hH) (As := []) (rest := []) (c_X4_clearBuffer l G h.2.2.2.2.2.2.2 S ) zce_X4_clearBuffer zcv_X4_clearBuffer zm_L_116 hls.1 rfl rfl ⟨rfl, rfl⟩ ⟨Nat.le_of_ble_eq_true rfl, Nat.le_of_ble_eq_true rfl⟩ (Nat.le_of_ble_eq_true rfl) ⟨Nat.le_of_succ_le hcs.1, Nat.le_trans (Nat.le_add_right _ 6) hcs.2⟩ dL_law_742 (fun r_1 S_1 H locs hq1 hH => ?_)
  have e9 := k9_clearBuffer hq1
  have fx := zRx_of hI e9
  refine lv_aload_n h.1 h.2.1 dL_law_745 rfl (lv_at hls 2 rfl) ?_
  refine zcVi h hH (zr_5 h hH) (As := []) (rest := [.int r_1]) (c_X5_clearBuffer l G h.2.2.2.2.2.2.2 S_1 ) zce_X5_clearBuffer zcv_X5_clearBuffer zm_L_119 hls.1 rfl rfl ⟨rfl, rfl⟩ ⟨Nat.le_of_ble_eq_true rfl, Nat.le_of_ble_eq_true rfl⟩ (Nat.le_of_ble_eq_true rfl) ⟨Nat.le_of_succ_le hcs.1, Nat.le_trans (Nat.le_add_right _ 6) hcs.2⟩ dL_law_746 (fun r_2 S_2 H locs hq2 hH => ?_)
  obtain ⟨er, hI2⟩ := g_clearBuffer hI hq1 hq2
  subst er
  refine lv_icmp_eq (tgt := 1412) h.1 h.2.1 dL_law_749 (by decide) (fun _ => ?_) (fun c9 => absurd rfl c9)
  refine W.widen (k := cells + 1) (n := slots + 6) (by omega) (by omega) ?_
  exact K S_2 ls hI2 hls H locs hH
set_option maxHeartbeats 4000000 in
set_option maxRecDepth 100000 in
theorem law_firstError (C : zLw p l s m args meth c G b L xs) {S : zM} {n i : Int} {H : Heap} {locs : List Loc} {cells slots : Nat} {ls : Array Slot} (hI : zInv S n) (hn : n ≤ 600) (hi : 0 ≤ i ∧ i + 4 < L) (hH : zH G S s H locs) (hls : lv_has ls 9 [(0, .ref b), (1, .ref (za G 8 0)), (2, .ref (za G 9 0)), (3, .ref (za G 8 5)), (4, .int (zI i))]) (hcs : cells + 1 ≤ 629837 ∧ slots + 6 ≤ 7206592)
    (K : ∀ (S' : zM) (ls' : Array Slot), zInv S' (n + 1) → lv_has ls' 9 [(0, .ref b), (1, .ref (za G 8 0)), (2, .ref (za G 9 0)), (3, .ref (za G 8 5)), (4, .int (zI i))] → ∀ (H1 : Heap) (locs1 : List Loc), zH G S' s H1 locs1 → W p l e room_1 s m args below meth c H1 locs1 (cells + 1) (slots + 6) Q (F0 m 1412 ls' [])) :
    W p l e room_1 s m args below meth c H locs cells slots Q (F0 m 754 ls []) := by
  have h := C.h
  have f := zRl_of hI (by omega)
  have hL := C.hL
  refine lv_aload_n h.1 h.2.1 dL_law_754 rfl (lv_at hls 1 rfl) ?_
  refine zcVi h hH (zr_4 h hH) (As := []) (rest := []) (c_X4_firstError l G h.2.2.2.2.2.2.2 S f.len f.bf f.rd) zce_X4_firstError zcv_X4_firstError zm_L_120 hls.1 rfl rfl ⟨rfl, rfl⟩ ⟨Nat.le_of_ble_eq_true rfl, Nat.le_of_ble_eq_true rfl⟩ (Nat.le_of_ble_eq_true rfl) ⟨Nat.le_of_succ_le hcs.1, Nat.le_trans (Nat.le_add_right _ 6) hcs.2⟩ dL_law_755 (fun r_1 S_1 H locs hq1 hH => ?_)
  have e9 := k9_firstError hq1
  have fx := zRx_of hI e9
  refine lv_aload_n h.1 h.2.1 dL_law_758 rfl (lv_at hls 2 rfl) ?_
  refine zcVi h hH (zr_5 h hH) (As := []) (rest := [.int r_1]) (c_X5_firstError l G h.2.2.2.2.2.2.2 S_1 (zup (S 8 3) 0 0) (zup_s _ _ _) fx.len fx.tx) zce_X5_firstError zcv_X5_firstError zm_L_123 hls.1 rfl rfl ⟨rfl, rfl⟩ ⟨Nat.le_of_ble_eq_true rfl, Nat.le_of_ble_eq_true rfl⟩ (Nat.le_of_ble_eq_true rfl) ⟨Nat.le_of_succ_le hcs.1, Nat.le_trans (Nat.le_add_right _ 6) hcs.2⟩ dL_law_759 (fun r_2 S_2 H locs hq2 hH => ?_)
  obtain ⟨er, hI2⟩ := g_firstError hI hq1 hq2
  subst er
  refine lv_icmp_eq (tgt := 1412) h.1 h.2.1 dL_law_762 (by decide) (fun _ => ?_) (fun c9 => absurd rfl c9)
  refine W.widen (k := cells + 1) (n := slots + 6) (by omega) (by omega) ?_
  exact K S_2 ls hI2 hls H locs hH
set_option maxHeartbeats 4000000 in
set_option maxRecDepth 100000 in
theorem law_run (C : zLw p l s m args meth c G b L xs) {S : zM} {n i : Int} {H : Heap} {locs : List Loc} {cells slots : Nat} {ls : Array Slot} (hI : zInv S n) (hn : n ≤ 600) (hi : 0 ≤ i ∧ i + 4 < L) (hH : zH G S s H locs) (hls : lv_has ls 9 [(0, .ref b), (1, .ref (za G 8 0)), (2, .ref (za G 9 0)), (3, .ref (za G 8 5)), (4, .int (zI i))]) (hcs : cells + 1 ≤ 629837 ∧ slots + 6 ≤ 7206592)
    (K : ∀ (S' : zM) (ls' : Array Slot), zInv S' (n + 1) → lv_has ls' 9 [(0, .ref b), (1, .ref (za G 8 0)), (2, .ref (za G 9 0)), (3, .ref (za G 8 5)), (4, .int (zI i))] → ∀ (H1 : Heap) (locs1 : List Loc), zH G S' s H1 locs1 → W p l e room_1 s m args below meth c H1 locs1 (cells + 1) (slots + 6) Q (F0 m 1412 ls' [])) :
    W p l e room_1 s m args below meth c H locs cells slots Q (F0 m 767 ls []) := by
  have h := C.h
  have f := zRl_of hI (by omega)
  have hL := C.hL
  refine lv_aload_n h.1 h.2.1 dL_law_767 rfl (lv_at hls 1 rfl) ?_
  refine lv_aload_n h.1 h.2.1 dL_law_768 rfl (lv_at hls 3 rfl) ?_
  refine zcXS h C.hX hH (n := 2) (As := [.ref (za G 8 0), .ref (za G 8 5)]) (rest := []) (c_L_run l C.hl G h.2.2.2.2.2.2.2 S  f.len f.bf f.rd f.ok f.nx f.sz f.ms f.w) zc_L_run zn_L ⟨by decide, by decide⟩ (by decide +kernel) zt_L_run zm_L_124 hls.1 rfl rfl ⟨rfl, rfl⟩ ⟨Nat.le_of_ble_eq_true rfl, Nat.le_of_ble_eq_true rfl⟩ (Nat.le_of_ble_eq_true rfl) hcs dL_law_769 (fun r_1 S_1 H locs hq1 hH => ?_)
  have e9 := k9_run hq1
  have fx := zRx_of hI e9
  refine lv_istore (lv' := [(5, .int r_1), (0, .ref b), (1, .ref (za G 8 0)), (2, .ref (za G 9 0)), (3, .ref (za G 8 5)), (4, .int (zI i))]) h.1 h.2.1 dL_law_772 hls (by decide) rfl (fun ls hls => ?_)
  refine lv_aload_n h.1 h.2.1 dL_law_774 rfl (lv_at hls 3 rfl) ?_
  refine zcVi h hH (zr_5 h hH) (As := []) (rest := []) (c_X5_run l G h.2.2.2.2.2.2.2 S_1  (zup (S 8 3) 0 0) (zup_s _ _ _) fx.len fx.tx fx.sm fx.ok) zce_X5_run zcv_X5_run zm_L_127 hls.1 rfl rfl ⟨rfl, rfl⟩ ⟨Nat.le_of_ble_eq_true rfl, Nat.le_of_ble_eq_true rfl⟩ (Nat.le_of_ble_eq_true rfl) hcs dL_law_775 (fun r_2 S_2 H locs hq2 hH => ?_)
  refine lv_istore (lv' := [(6, .int r_2), (5, .int r_1), (0, .ref b), (1, .ref (za G 8 0)), (2, .ref (za G 9 0)), (3, .ref (za G 8 5)), (4, .int (zI i))]) h.1 h.2.1 dL_law_778 hls (by decide) rfl (fun ls hls => ?_)
  exact ztail C (g_run hI hq1 hq2) hH hls hcs dL_law_780 dL_law_781 dL_law_784 dL_law_786 dL_law_791 dL_law_793 dL_law_796 dL_law_797 dL_law_798 dL_law_799 dL_law_801 dL_law_802 dL_law_803 dL_law_808 (by decide) K
set_option maxHeartbeats 4000000 in
set_option maxRecDepth 100000 in
theorem law_undo (C : zLw p l s m args meth c G b L xs) {S : zM} {n i : Int} {H : Heap} {locs : List Loc} {cells slots : Nat} {ls : Array Slot} (hI : zInv S n) (hn : n ≤ 600) (hi : 0 ≤ i ∧ i + 4 < L) (hH : zH G S s H locs) (hls : lv_has ls 9 [(0, .ref b), (1, .ref (za G 8 0)), (2, .ref (za G 9 0)), (3, .ref (za G 8 5)), (4, .int (zI i))]) (hcs : cells + 1 ≤ 629837 ∧ slots + 6 ≤ 7206592)
    (K : ∀ (S' : zM) (ls' : Array Slot), zInv S' (n + 1) → lv_has ls' 9 [(0, .ref b), (1, .ref (za G 8 0)), (2, .ref (za G 9 0)), (3, .ref (za G 8 5)), (4, .int (zI i))] → ∀ (H1 : Heap) (locs1 : List Loc), zH G S' s H1 locs1 → W p l e room_1 s m args below meth c H1 locs1 (cells + 1) (slots + 6) Q (F0 m 1412 ls' [])) :
    W p l e room_1 s m args below meth c H locs cells slots Q (F0 m 811 ls []) := by
  have h := C.h
  have f := zRl_of hI (by omega)
  have hL := C.hL
  refine lv_aload_n h.1 h.2.1 dL_law_811 rfl (lv_at hls 1 rfl) ?_
  refine lv_aload_n h.1 h.2.1 dL_law_812 rfl (lv_at hls 3 rfl) ?_
  refine zcXS h C.hX hH (n := 2) (As := [.ref (za G 8 0), .ref (za G 8 5)]) (rest := []) (c_L_undo l C.hl G h.2.2.2.2.2.2.2 S  f.sz f.nxu f.wk) zc_L_undo zn_L ⟨by decide, by decide⟩ (by decide +kernel) zt_L_undo zm_L_128 hls.1 rfl rfl ⟨rfl, rfl⟩ ⟨Nat.le_of_ble_eq_true rfl, Nat.le_of_ble_eq_true rfl⟩ (Nat.le_of_ble_eq_true rfl) hcs dL_law_813 (fun r_1 S_1 H locs hq1 hH => ?_)
  have e9 := k9_undo hq1
  have fx := zRx_of hI e9
  refine lv_istore (lv' := [(5, .int r_1), (0, .ref b), (1, .ref (za G 8 0)), (2, .ref (za G 9 0)), (3, .ref (za G 8 5)), (4, .int (zI i))]) h.1 h.2.1 dL_law_816 hls (by decide) rfl (fun ls hls => ?_)
  refine lv_aload_n h.1 h.2.1 dL_law_818 rfl (lv_at hls 3 rfl) ?_
  refine zcVi h hH (zr_5 h hH) (As := []) (rest := []) (c_X5_undo l G h.2.2.2.2.2.2.2 S_1  fx.sm) zce_X5_undo zcv_X5_undo zm_L_130 hls.1 rfl rfl ⟨rfl, rfl⟩ ⟨Nat.le_of_ble_eq_true rfl, Nat.le_of_ble_eq_true rfl⟩ (Nat.le_of_ble_eq_true rfl) hcs dL_law_819 (fun r_2 S_2 H locs hq2 hH => ?_)
  refine lv_istore (lv' := [(6, .int r_2), (5, .int r_1), (0, .ref b), (1, .ref (za G 8 0)), (2, .ref (za G 9 0)), (3, .ref (za G 8 5)), (4, .int (zI i))]) h.1 h.2.1 dL_law_822 hls (by decide) rfl (fun ls hls => ?_)
  exact ztail C (g_undo hI hq1 hq2) hH hls hcs dL_law_824 dL_law_825 dL_law_828 dL_law_830 dL_law_835 dL_law_837 dL_law_840 dL_law_841 dL_law_842 dL_law_843 dL_law_845 dL_law_846 dL_law_847 dL_law_852 (by decide) K
set_option maxHeartbeats 4000000 in
set_option maxRecDepth 100000 in
theorem law_zoneOf (C : zLw p l s m args meth c G b L xs) {S : zM} {n i : Int} {H : Heap} {locs : List Loc} {cells slots : Nat} {ls : Array Slot} (hI : zInv S n) (hn : n ≤ 600) (hi : 0 ≤ i ∧ i + 4 < L) (hH : zH G S s H locs) (hls : lv_has ls 9 [(0, .ref b), (1, .ref (za G 8 0)), (2, .ref (za G 9 0)), (3, .ref (za G 8 5)), (4, .int (zI i))]) (hcs : cells + 1 ≤ 629837 ∧ slots + 6 ≤ 7206592)
    (K : ∀ (S' : zM) (ls' : Array Slot), zInv S' (n + 1) → lv_has ls' 9 [(0, .ref b), (1, .ref (za G 8 0)), (2, .ref (za G 9 0)), (3, .ref (za G 8 5)), (4, .int (zI i))] → ∀ (H1 : Heap) (locs1 : List Loc), zH G S' s H1 locs1 → W p l e room_1 s m args below meth c H1 locs1 (cells + 1) (slots + 6) Q (F0 m 1412 ls' [])) :
    W p l e room_1 s m args below meth c H locs cells slots Q (F0 m 855 ls []) := by
  have h := C.h
  have f := zRl_of hI (by omega)
  have hL := C.hL
  refine lv_aload_n h.1 h.2.1 dL_law_855 rfl (lv_at hls 1 rfl) ?_
  refine lv_aload_n h.1 h.2.1 dL_law_856 rfl (lv_at hls 0 rfl) ?_
  refine lv_iload h.1 h.2.1 dL_law_857 (lv_at hls 4 rfl) ?_
  refine zb_ic h dL_law_859 ?_
  refine zb_iadd h dL_law_860 ?_
  refine zld C hH (i := (i + 1)) (by omega) dL_law_861 ?_
  refine lv_aload_n h.1 h.2.1 dL_law_862 rfl (lv_at hls 0 rfl) ?_
  refine lv_iload h.1 h.2.1 dL_law_863 (lv_at hls 4 rfl) ?_
  refine zb_ic h dL_law_865 ?_
  refine zb_iadd h dL_law_866 ?_
  refine zld C hH (i := (i + 2)) (by omega) dL_law_867 ?_
  refine lv_aload_n h.1 h.2.1 dL_law_868 rfl (lv_at hls 3 rfl) ?_
  refine zcXS h C.hX hH (n := 4) (As := [.ref (za G 8 0), .int (zI (zx xs (i + 1))), .int (zI (zx xs (i + 2))), .ref (za G 8 5)]) (rest := []) (c_L_zoneOf l C.hl G h.2.2.2.2.2.2.2 S (zx xs (i + 1)) (zx_in _ _) (zx xs (i + 2)) (zx_in _ _) f.ms f.w) zc_L_zoneOf zn_L ⟨by decide, by decide⟩ (by decide +kernel) zt_L_zoneOf zm_L_131 hls.1 rfl rfl ⟨rfl, rfl⟩ ⟨Nat.le_of_ble_eq_true rfl, Nat.le_of_ble_eq_true rfl⟩ (Nat.le_of_ble_eq_true rfl) hcs dL_law_869 (fun r_1 S_1 H locs hq1 hH => ?_)
  have e9 := k9_zoneOf hq1
  have fx := zRx_of hI e9
  refine lv_istore (lv' := [(5, .int r_1), (0, .ref b), (1, .ref (za G 8 0)), (2, .ref (za G 9 0)), (3, .ref (za G 8 5)), (4, .int (zI i))]) h.1 h.2.1 dL_law_872 hls (by decide) rfl (fun ls hls => ?_)
  refine lv_aload_n h.1 h.2.1 dL_law_874 rfl (lv_at hls 3 rfl) ?_
  refine lv_aload_n h.1 h.2.1 dL_law_875 rfl (lv_at hls 1 rfl) ?_
  refine lv_iload h.1 h.2.1 dL_law_876 (lv_at hls 5 rfl) ?_
  refine zb_ic h dL_law_878 ?_
  refine zb_iadd h dL_law_879 ?_
  refine zld C hH (i := (i + 1)) (by omega) dL_law_880 ?_
  refine lv_aload_n h.1 h.2.1 dL_law_881 rfl (lv_at hls 1 rfl) ?_
  refine lv_iload h.1 h.2.1 dL_law_882 (lv_at hls 5 rfl) ?_
  refine zb_ic h dL_law_884 ?_
  refine zb_iadd h dL_law_885 ?_
  refine zld C hH (i := (i + 2)) (by omega) dL_law_886 ?_
  refine zcVi h hH (zr_5 h hH) (As := [.int (zI (zx xs (i + 1))), .int (zI (zx xs (i + 2)))]) (rest := []) (c_X5_zoneOf l G h.2.2.2.2.2.2.2 S_1 (zx xs (i + 1)) (zx_in _ _) (zx xs (i + 2)) (zx_in _ _) fx.w) zce_X5_zoneOf zcv_X5_zoneOf zm_L_133 hls.1 rfl rfl ⟨rfl, rfl⟩ ⟨Nat.le_of_ble_eq_true rfl, Nat.le_of_ble_eq_true rfl⟩ (Nat.le_of_ble_eq_true rfl) hcs dL_law_887 (fun r_2 S_2 H locs hq2 hH => ?_)
  refine lv_istore (lv' := [(6, .int r_2), (5, .int r_1), (0, .ref b), (1, .ref (za G 8 0)), (2, .ref (za G 9 0)), (3, .ref (za G 8 5)), (4, .int (zI i))]) h.1 h.2.1 dL_law_890 hls (by decide) rfl (fun ls hls => ?_)
  exact ztail C (g_zoneOf hI hq1 hq2) hH hls hcs dL_law_892 dL_law_893 dL_law_896 dL_law_898 dL_law_903 dL_law_905 dL_law_908 dL_law_909 dL_law_910 dL_law_911 dL_law_913 dL_law_914 dL_law_915 dL_law_920 (by decide) K
set_option maxHeartbeats 4000000 in
set_option maxRecDepth 100000 in
theorem law_mark (C : zLw p l s m args meth c G b L xs) {S : zM} {n i : Int} {H : Heap} {locs : List Loc} {cells slots : Nat} {ls : Array Slot} (hI : zInv S n) (hn : n ≤ 600) (hi : 0 ≤ i ∧ i + 4 < L) (hH : zH G S s H locs) (hls : lv_has ls 9 [(0, .ref b), (1, .ref (za G 8 0)), (2, .ref (za G 9 0)), (3, .ref (za G 8 5)), (4, .int (zI i))]) (hcs : cells + 1 ≤ 629837 ∧ slots + 6 ≤ 7206592)
    (K : ∀ (S' : zM) (ls' : Array Slot), zInv S' (n + 1) → lv_has ls' 9 [(0, .ref b), (1, .ref (za G 8 0)), (2, .ref (za G 9 0)), (3, .ref (za G 8 5)), (4, .int (zI i))] → ∀ (H1 : Heap) (locs1 : List Loc), zH G S' s H1 locs1 → W p l e room_1 s m args below meth c H1 locs1 (cells + 1) (slots + 6) Q (F0 m 1412 ls' [])) :
    W p l e room_1 s m args below meth c H locs cells slots Q (F0 m 923 ls []) := by
  have h := C.h
  have f := zRl_of hI (by omega)
  have hL := C.hL
  refine lv_aload_n h.1 h.2.1 dL_law_923 rfl (lv_at hls 1 rfl) ?_
  refine lv_aload_n h.1 h.2.1 dL_law_924 rfl (lv_at hls 0 rfl) ?_
  refine lv_iload h.1 h.2.1 dL_law_925 (lv_at hls 4 rfl) ?_
  refine zb_ic h dL_law_927 ?_
  refine zb_iadd h dL_law_928 ?_
  refine zld C hH (i := (i + 1)) (by omega) dL_law_929 ?_
  refine lv_aload_n h.1 h.2.1 dL_law_930 rfl (lv_at hls 3 rfl) ?_
  refine zcXS h C.hX hH (n := 3) (As := [.ref (za G 8 0), .int (zI (zx xs (i + 1))), .ref (za G 8 5)]) (rest := []) (c_L_mark l C.hl G h.2.2.2.2.2.2.2 S (zx xs (i + 1)) (zx_in _ _) f.ms f.w) zc_L_mark zn_L ⟨by decide, by decide⟩ (by decide +kernel) zt_L_mark zm_L_134 hls.1 rfl rfl ⟨rfl, rfl⟩ ⟨Nat.le_of_ble_eq_true rfl, Nat.le_of_ble_eq_true rfl⟩ (Nat.le_of_ble_eq_true rfl) hcs dL_law_931 (fun r_1 S_1 H locs hq1 hH => ?_)
  have e9 := k9_mark hq1
  have fx := zRx_of hI e9
  refine lv_istore (lv' := [(5, .int r_1), (0, .ref b), (1, .ref (za G 8 0)), (2, .ref (za G 9 0)), (3, .ref (za G 8 5)), (4, .int (zI i))]) h.1 h.2.1 dL_law_934 hls (by decide) rfl (fun ls hls => ?_)
  refine lv_aload_n h.1 h.2.1 dL_law_936 rfl (lv_at hls 3 rfl) ?_
  refine lv_aload_n h.1 h.2.1 dL_law_937 rfl (lv_at hls 1 rfl) ?_
  refine lv_iload h.1 h.2.1 dL_law_938 (lv_at hls 5 rfl) ?_
  refine zb_ic h dL_law_940 ?_
  refine zb_iadd h dL_law_941 ?_
  refine zld C hH (i := (i + 1)) (by omega) dL_law_942 ?_
  refine zcVi h hH (zr_5 h hH) (As := [.int (zI (zx xs (i + 1)))]) (rest := []) (c_X5_mark l G h.2.2.2.2.2.2.2 S_1 (zx xs (i + 1)) (zx_in _ _) fx.w) zce_X5_mark zcv_X5_mark zm_L_136 hls.1 rfl rfl ⟨rfl, rfl⟩ ⟨Nat.le_of_ble_eq_true rfl, Nat.le_of_ble_eq_true rfl⟩ (Nat.le_of_ble_eq_true rfl) hcs dL_law_943 (fun r_2 S_2 H locs hq2 hH => ?_)
  refine lv_istore (lv' := [(6, .int r_2), (5, .int r_1), (0, .ref b), (1, .ref (za G 8 0)), (2, .ref (za G 9 0)), (3, .ref (za G 8 5)), (4, .int (zI i))]) h.1 h.2.1 dL_law_946 hls (by decide) rfl (fun ls hls => ?_)
  exact ztail C (g_mark hI hq1 hq2) hH hls hcs dL_law_948 dL_law_949 dL_law_952 dL_law_954 dL_law_959 dL_law_961 dL_law_964 dL_law_965 dL_law_966 dL_law_967 dL_law_969 dL_law_970 dL_law_971 dL_law_976 (by decide) K
end ZW
