/-! names, printed by program: methods, their instructions, what they link -/
theorem d_Mo_attempt_698 : decode (a_cc M_Mo_attempt) 698 = .ok (.getfield 81, 3) := by decide +kernel
theorem d_Mo_attempt_701 : decode (a_cc M_Mo_attempt) 701 = .ok (.iload 5, 2) := by decide +kernel
theorem d_Mo_attempt_703 : decode (a_cc M_Mo_attempt) 703 = .ok (.aaload, 1) := by decide +kernel
theorem d_Mo_attempt_704 : decode (a_cc M_Mo_attempt) 704 = .ok (.iload 6, 2) := by decide +kernel
theorem d_Mo_attempt_706 : decode (a_cc M_Mo_attempt) 706 = .ok (.aload_n 0, 1) := by decide +kernel
theorem d_Mo_attempt_707 : decode (a_cc M_Mo_attempt) 707 = .ok (.aload_n 0, 1) := by decide +kernel
theorem d_Mo_attempt_708 : decode (a_cc M_Mo_attempt) 708 = .ok (.getfield 76, 3) := by decide +kernel
theorem d_Mo_attempt_711 : decode (a_cc M_Mo_attempt) 711 = .ok (.bipush 30, 2) := by decide +kernel
theorem d_Mo_attempt_713 : decode (a_cc M_Mo_attempt) 713 = .ok (.iload 5, 2) := by decide +kernel
theorem d_Mo_attempt_715 : decode (a_cc M_Mo_attempt) 715 = .ok (.iadd, 1) := by decide +kernel
theorem d_Mo_attempt_716 : decode (a_cc M_Mo_attempt) 716 = .ok (.aaload, 1) := by decide +kernel
theorem d_Mo_attempt_717 : decode (a_cc M_Mo_attempt) 717 = .ok (.iload 6, 2) := by decide +kernel
theorem d_Mo_attempt_719 : decode (a_cc M_Mo_attempt) 719 = .ok (.iaload, 1) := by decide +kernel
theorem d_Mo_attempt_720 : decode (a_cc M_Mo_attempt) 720 = .ok (.iload 7, 2) := by decide +kernel
theorem d_Mo_attempt_722 : decode (a_cc M_Mo_attempt) 722 = .ok (.iadd, 1) := by decide +kernel
theorem d_Mo_attempt_723 : decode (a_cc M_Mo_attempt) 723 = .ok (.ldc_w 264, 3) := by decide +kernel
theorem d_Mo_attempt_726 : decode (a_cc M_Mo_attempt) 726 = .ok (.iadd, 1) := by decide +kernel
theorem d_Mo_attempt_727 : decode (a_cc M_Mo_attempt) 727 = .ok (.ldc_w 264, 3) := by decide +kernel
theorem d_Mo_attempt_730 : decode (a_cc M_Mo_attempt) 730 = .ok (.irem, 1) := by decide +kernel
theorem d_Mo_attempt_731 : decode (a_cc M_Mo_attempt) 731 = .ok (.invokevirtual 343, 3) := by decide +kernel
theorem d_Mo_attempt_734 : decode (a_cc M_Mo_attempt) 734 = .ok (.aload_n 0, 1) := by decide +kernel
theorem d_Mo_attempt_735 : decode (a_cc M_Mo_attempt) 735 = .ok (.aload_n 0, 1) := by decide +kernel
theorem d_Mo_attempt_736 : decode (a_cc M_Mo_attempt) 736 = .ok (.getfield 76, 3) := by decide +kernel
theorem d_Mo_attempt_739 : decode (a_cc M_Mo_attempt) 739 = .ok (.bipush 30, 2) := by decide +kernel
theorem d_Mo_attempt_741 : decode (a_cc M_Mo_attempt) 741 = .ok (.iload 5, 2) := by decide +kernel
theorem d_Mo_attempt_743 : decode (a_cc M_Mo_attempt) 743 = .ok (.iadd, 1) := by decide +kernel
theorem d_Mo_attempt_744 : decode (a_cc M_Mo_attempt) 744 = .ok (.aaload, 1) := by decide +kernel
theorem d_Mo_attempt_745 : decode (a_cc M_Mo_attempt) 745 = .ok (.iload 6, 2) := by decide +kernel
theorem d_Mo_attempt_747 : decode (a_cc M_Mo_attempt) 747 = .ok (.iaload, 1) := by decide +kernel
theorem d_Mo_attempt_748 : decode (a_cc M_Mo_attempt) 748 = .ok (.invokevirtual 343, 3) := by decide +kernel
theorem d_Mo_attempt_751 : decode (a_cc M_Mo_attempt) 751 = .ok (.if_icmp .eq 7, 3) := by decide +kernel
theorem d_Mo_attempt_754 : decode (a_cc M_Mo_attempt) 754 = .ok (.iconst 1, 1) := by decide +kernel
theorem d_Mo_attempt_755 : decode (a_cc M_Mo_attempt) 755 = .ok (.goto 4, 3) := by decide +kernel
theorem d_Mo_attempt_758 : decode (a_cc M_Mo_attempt) 758 = .ok (.iconst 0, 1) := by decide +kernel
theorem d_Mo_attempt_759 : decode (a_cc M_Mo_attempt) 759 = .ok (.bastore, 1) := by decide +kernel
theorem d_Mo_attempt_760 : decode (a_cc M_Mo_attempt) 760 = .ok (.aload_n 0, 1) := by decide +kernel
theorem d_Mo_attempt_761 : decode (a_cc M_Mo_attempt) 761 = .ok (.getfield 81, 3) := by decide +kernel
theorem d_Mo_attempt_764 : decode (a_cc M_Mo_attempt) 764 = .ok (.iload 5, 2) := by decide +kernel
theorem d_Mo_attempt_766 : decode (a_cc M_Mo_attempt) 766 = .ok (.aaload, 1) := by decide +kernel
theorem d_Mo_attempt_767 : decode (a_cc M_Mo_attempt) 767 = .ok (.iload 6, 2) := by decide +kernel
theorem d_Mo_attempt_769 : decode (a_cc M_Mo_attempt) 769 = .ok (.baload, 1) := by decide +kernel
theorem d_Mo_attempt_770 : decode (a_cc M_Mo_attempt) 770 = .ok (.ifCond .eq 6, 3) := by decide +kernel
theorem d_Mo_attempt_773 : decode (a_cc M_Mo_attempt) 773 = .ok (.iinc 3 1, 3) := by decide +kernel
theorem d_Mo_attempt_776 : decode (a_cc M_Mo_attempt) 776 = .ok (.iinc 6 1, 3) := by decide +kernel
theorem d_Mo_attempt_779 : decode (a_cc M_Mo_attempt) 779 = .ok (.goto (-124), 3) := by decide +kernel
theorem d_Mo_attempt_782 : decode (a_cc M_Mo_attempt) 782 = .ok (.iinc 5 1, 3) := by decide +kernel
theorem d_Mo_attempt_785 : decode (a_cc M_Mo_attempt) 785 = .ok (.goto (-306), 3) := by decide +kernel
theorem d_Mo_attempt_788 : decode (a_cc M_Mo_attempt) 788 = .ok (.iload 4, 2) := by decide +kernel
theorem d_Mo_attempt_790 : decode (a_cc M_Mo_attempt) 790 = .ok (.ifCond .ne 11, 3) := by decide +kernel
theorem d_Mo_attempt_793 : decode (a_cc M_Mo_attempt) 793 = .ok (.iload_n 3, 1) := by decide +kernel
theorem d_Mo_attempt_794 : decode (a_cc M_Mo_attempt) 794 = .ok (.aload_n 0, 1) := by decide +kernel
theorem d_Mo_attempt_795 : decode (a_cc M_Mo_attempt) 795 = .ok (.getfield 245, 3) := by decide +kernel
theorem d_Mo_attempt_798 : decode (a_cc M_Mo_attempt) 798 = .ok (.if_icmp .le 5, 3) := by decide +kernel
theorem d_Mo_attempt_801 : decode (a_cc M_Mo_attempt) 801 = .ok (.iconst 0, 1) := by decide +kernel
theorem d_Mo_attempt_802 : decode (a_cc M_Mo_attempt) 802 = .ok (.ireturn, 1) := by decide +kernel
theorem d_Mo_attempt_803 : decode (a_cc M_Mo_attempt) 803 = .ok (.aload_n 0, 1) := by decide +kernel
theorem d_Mo_attempt_804 : decode (a_cc M_Mo_attempt) 804 = .ok (.getfield 99, 3) := by decide +kernel
theorem d_Mo_attempt_807 : decode (a_cc M_Mo_attempt) 807 = .ok (.iconst 0, 1) := by decide +kernel
theorem d_Mo_attempt_808 : decode (a_cc M_Mo_attempt) 808 = .ok (.aload_n 0, 1) := by decide +kernel
theorem d_Mo_attempt_809 : decode (a_cc M_Mo_attempt) 809 = .ok (.getfield 87, 3) := by decide +kernel
theorem d_Mo_attempt_812 : decode (a_cc M_Mo_attempt) 812 = .ok (.iconst 0, 1) := by decide +kernel
theorem d_Mo_attempt_813 : decode (a_cc M_Mo_attempt) 813 = .ok (.aload_n 0, 1) := by decide +kernel
theorem d_Mo_attempt_814 : decode (a_cc M_Mo_attempt) 814 = .ok (.getfield 248, 3) := by decide +kernel
theorem d_Mo_attempt_817 : decode (a_cc M_Mo_attempt) 817 = .ok (.invokestatic 318, 3) := by decide +kernel
theorem d_Mo_attempt_820 : decode (a_cc M_Mo_attempt) 820 = .ok (.aload_n 0, 1) := by decide +kernel
theorem d_Mo_attempt_821 : decode (a_cc M_Mo_attempt) 821 = .ok (.iconst 0, 1) := by decide +kernel
theorem d_Mo_attempt_822 : decode (a_cc M_Mo_attempt) 822 = .ok (.putfield 216, 3) := by decide +kernel
theorem d_Mo_attempt_825 : decode (a_cc M_Mo_attempt) 825 = .ok (.iconst 0, 1) := by decide +kernel
theorem d_Mo_attempt_826 : decode (a_cc M_Mo_attempt) 826 = .ok (.istore 5, 2) := by decide +kernel
theorem d_Mo_attempt_828 : decode (a_cc M_Mo_attempt) 828 = .ok (.iload 5, 2) := by decide +kernel
theorem d_Mo_attempt_830 : decode (a_cc M_Mo_attempt) 830 = .ok (.aload_n 0, 1) := by decide +kernel
theorem d_Mo_attempt_831 : decode (a_cc M_Mo_attempt) 831 = .ok (.getfield 226, 3) := by decide +kernel
theorem d_Mo_attempt_834 : decode (a_cc M_Mo_attempt) 834 = .ok (.if_icmp .ge 39, 3) := by decide +kernel
theorem d_Mo_attempt_837 : decode (a_cc M_Mo_attempt) 837 = .ok (.aload_n 0, 1) := by decide +kernel
theorem d_Mo_attempt_838 : decode (a_cc M_Mo_attempt) 838 = .ok (.aload_n 0, 1) := by decide +kernel
theorem d_Mo_attempt_839 : decode (a_cc M_Mo_attempt) 839 = .ok (.getfield 87, 3) := by decide +kernel
theorem d_Mo_attempt_842 : decode (a_cc M_Mo_attempt) 842 = .ok (.aload_n 0, 1) := by decide +kernel
theorem d_Mo_attempt_843 : decode (a_cc M_Mo_attempt) 843 = .ok (.getfield 248, 3) := by decide +kernel
theorem d_Mo_attempt_846 : decode (a_cc M_Mo_attempt) 846 = .ok (.aload_n 0, 1) := by decide +kernel
theorem d_Mo_attempt_847 : decode (a_cc M_Mo_attempt) 847 = .ok (.getfield 76, 3) := by decide +kernel
theorem d_Mo_attempt_850 : decode (a_cc M_Mo_attempt) 850 = .ok (.bipush 23, 2) := by decide +kernel
theorem d_Mo_attempt_852 : decode (a_cc M_Mo_attempt) 852 = .ok (.iload 5, 2) := by decide +kernel
theorem d_Mo_attempt_854 : decode (a_cc M_Mo_attempt) 854 = .ok (.iadd, 1) := by decide +kernel
theorem d_Mo_attempt_855 : decode (a_cc M_Mo_attempt) 855 = .ok (.aaload, 1) := by decide +kernel
theorem d_Mo_attempt_856 : decode (a_cc M_Mo_attempt) 856 = .ok (.aload_n 0, 1) := by decide +kernel
theorem d_Mo_attempt_857 : decode (a_cc M_Mo_attempt) 857 = .ok (.getfield 237, 3) := by decide +kernel
theorem d_Mo_attempt_860 : decode (a_cc M_Mo_attempt) 860 = .ok (.aload_n 0, 1) := by decide +kernel
theorem d_Mo_attempt_861 : decode (a_cc M_Mo_attempt) 861 = .ok (.getfield 251, 3) := by decide +kernel
theorem d_Mo_attempt_864 : decode (a_cc M_Mo_attempt) 864 = .ok (.invokevirtual 297, 3) := by decide +kernel
theorem d_Mo_attempt_867 : decode (a_cc M_Mo_attempt) 867 = .ok (.iinc 5 1, 3) := by decide +kernel
theorem d_Mo_attempt_870 : decode (a_cc M_Mo_attempt) 870 = .ok (.goto (-42), 3) := by decide +kernel
theorem d_Mo_attempt_873 : decode (a_cc M_Mo_attempt) 873 = .ok (.aload_n 0, 1) := by decide +kernel
theorem d_Mo_attempt_874 : decode (a_cc M_Mo_attempt) 874 = .ok (.getfield 248, 3) := by decide +kernel
theorem d_Mo_attempt_877 : decode (a_cc M_Mo_attempt) 877 = .ok (.bipush 32, 2) := by decide +kernel
theorem d_Mo_attempt_879 : decode (a_cc M_Mo_attempt) 879 = .ok (.aload_n 0, 1) := by decide +kernel
theorem d_Mo_attempt_880 : decode (a_cc M_Mo_attempt) 880 = .ok (.getfield 226, 3) := by decide +kernel
theorem d_Mo_attempt_883 : decode (a_cc M_Mo_attempt) 883 = .ok (.imul, 1) := by decide +kernel
theorem d_Mo_attempt_884 : decode (a_cc M_Mo_attempt) 884 = .ok (.aload_n 0, 1) := by decide +kernel
theorem d_Mo_attempt_885 : decode (a_cc M_Mo_attempt) 885 = .ok (.getfield 251, 3) := by decide +kernel
theorem d_Mo_attempt_888 : decode (a_cc M_Mo_attempt) 888 = .ok (.imul, 1) := by decide +kernel
theorem d_Mo_attempt_889 : decode (a_cc M_Mo_attempt) 889 = .ok (.iadd, 1) := by decide +kernel
theorem d_Mo_attempt_890 : decode (a_cc M_Mo_attempt) 890 = .ok (.istore 5, 2) := by decide +kernel
theorem d_Mo_attempt_892 : decode (a_cc M_Mo_attempt) 892 = .ok (.iconst 0, 1) := by decide +kernel
theorem d_Mo_attempt_893 : decode (a_cc M_Mo_attempt) 893 = .ok (.istore 6, 2) := by decide +kernel
theorem d_Mo_attempt_895 : decode (a_cc M_Mo_attempt) 895 = .ok (.iconst 0, 1) := by decide +kernel
theorem d_Mo_attempt_896 : decode (a_cc M_Mo_attempt) 896 = .ok (.istore 7, 2) := by decide +kernel
theorem d_Mo_attempt_898 : decode (a_cc M_Mo_attempt) 898 = .ok (.iload 7, 2) := by decide +kernel
theorem d_Mo_attempt_900 : decode (a_cc M_Mo_attempt) 900 = .ok (.aload_n 0, 1) := by decide +kernel
theorem d_Mo_attempt_901 : decode (a_cc M_Mo_attempt) 901 = .ok (.getfield 245, 3) := by decide +kernel
theorem d_Mo_attempt_904 : decode (a_cc M_Mo_attempt) 904 = .ok (.if_icmp .ge 20, 3) := by decide +kernel
theorem d_Mo_attempt_907 : decode (a_cc M_Mo_attempt) 907 = .ok (.aload_n 0, 1) := by decide +kernel
theorem d_Mo_attempt_908 : decode (a_cc M_Mo_attempt) 908 = .ok (.getfield 87, 3) := by decide +kernel
theorem d_Mo_attempt_911 : decode (a_cc M_Mo_attempt) 911 = .ok (.iload 5, 2) := by decide +kernel
theorem d_Mo_attempt_913 : decode (a_cc M_Mo_attempt) 913 = .ok (.iload 7, 2) := by decide +kernel
theorem d_Mo_attempt_915 : decode (a_cc M_Mo_attempt) 915 = .ok (.iadd, 1) := by decide +kernel
theorem d_Mo_attempt_916 : decode (a_cc M_Mo_attempt) 916 = .ok (.iconst 0, 1) := by decide +kernel
theorem d_Mo_attempt_917 : decode (a_cc M_Mo_attempt) 917 = .ok (.bastore, 1) := by decide +kernel
theorem d_Mo_attempt_918 : decode (a_cc M_Mo_attempt) 918 = .ok (.iinc 7 1, 3) := by decide +kernel
theorem d_Mo_attempt_921 : decode (a_cc M_Mo_attempt) 921 = .ok (.goto (-23), 3) := by decide +kernel
theorem d_Mo_attempt_924 : decode (a_cc M_Mo_attempt) 924 = .ok (.iconst 0, 1) := by decide +kernel
theorem d_Mo_attempt_925 : decode (a_cc M_Mo_attempt) 925 = .ok (.istore 7, 2) := by decide +kernel
theorem d_Mo_attempt_927 : decode (a_cc M_Mo_attempt) 927 = .ok (.iload 7, 2) := by decide +kernel
theorem d_Mo_attempt_929 : decode (a_cc M_Mo_attempt) 929 = .ok (.aload_n 0, 1) := by decide +kernel
theorem d_Mo_attempt_930 : decode (a_cc M_Mo_attempt) 930 = .ok (.getfield 223, 3) := by decide +kernel
theorem d_Mo_attempt_933 : decode (a_cc M_Mo_attempt) 933 = .ok (.if_icmp .ge 73, 3) := by decide +kernel
theorem d_Mo_attempt_936 : decode (a_cc M_Mo_attempt) 936 = .ok (.iconst 0, 1) := by decide +kernel
theorem d_Mo_attempt_937 : decode (a_cc M_Mo_attempt) 937 = .ok (.istore 8, 2) := by decide +kernel
theorem d_Mo_attempt_939 : decode (a_cc M_Mo_attempt) 939 = .ok (.iload 8, 2) := by decide +kernel
theorem d_Mo_attempt_941 : decode (a_cc M_Mo_attempt) 941 = .ok (.sipush 256, 3) := by decide +kernel
theorem d_Mo_attempt_944 : decode (a_cc M_Mo_attempt) 944 = .ok (.if_icmp .ge 38, 3) := by decide +kernel
theorem d_Mo_attempt_947 : decode (a_cc M_Mo_attempt) 947 = .ok (.aload_n 0, 1) := by decide +kernel
theorem d_Mo_attempt_948 : decode (a_cc M_Mo_attempt) 948 = .ok (.getfield 81, 3) := by decide +kernel
theorem d_Mo_attempt_951 : decode (a_cc M_Mo_attempt) 951 = .ok (.iload 7, 2) := by decide +kernel
theorem d_Mo_attempt_953 : decode (a_cc M_Mo_attempt) 953 = .ok (.aaload, 1) := by decide +kernel
theorem d_Mo_attempt_954 : decode (a_cc M_Mo_attempt) 954 = .ok (.iload 8, 2) := by decide +kernel
theorem d_Mo_attempt_956 : decode (a_cc M_Mo_attempt) 956 = .ok (.baload, 1) := by decide +kernel
theorem d_Mo_attempt_957 : decode (a_cc M_Mo_attempt) 957 = .ok (.ifCond .eq 19, 3) := by decide +kernel
theorem d_Mo_attempt_960 : decode (a_cc M_Mo_attempt) 960 = .ok (.aload_n 0, 1) := by decide +kernel
theorem d_Mo_attempt_961 : decode (a_cc M_Mo_attempt) 961 = .ok (.getfield 87, 3) := by decide +kernel
theorem d_Mo_attempt_964 : decode (a_cc M_Mo_attempt) 964 = .ok (.iload 5, 2) := by decide +kernel
theorem d_Mo_attempt_966 : decode (a_cc M_Mo_attempt) 966 = .ok (.iload 6, 2) := by decide +kernel
theorem d_Mo_attempt_968 : decode (a_cc M_Mo_attempt) 968 = .ok (.iadd, 1) := by decide +kernel
theorem d_Mo_attempt_969 : decode (a_cc M_Mo_attempt) 969 = .ok (.iload 8, 2) := by decide +kernel
theorem d_Mo_attempt_971 : decode (a_cc M_Mo_attempt) 971 = .ok (.i2b, 1) := by decide +kernel
theorem d_Mo_attempt_972 : decode (a_cc M_Mo_attempt) 972 = .ok (.bastore, 1) := by decide +kernel
theorem d_Mo_attempt_973 : decode (a_cc M_Mo_attempt) 973 = .ok (.iinc 6 1, 3) := by decide +kernel
theorem d_Mo_attempt_976 : decode (a_cc M_Mo_attempt) 976 = .ok (.iinc 8 1, 3) := by decide +kernel
theorem d_Mo_attempt_979 : decode (a_cc M_Mo_attempt) 979 = .ok (.goto (-40), 3) := by decide +kernel
theorem d_Mo_attempt_982 : decode (a_cc M_Mo_attempt) 982 = .ok (.aload_n 0, 1) := by decide +kernel
theorem d_Mo_attempt_983 : decode (a_cc M_Mo_attempt) 983 = .ok (.getfield 87, 3) := by decide +kernel
theorem d_Mo_attempt_986 : decode (a_cc M_Mo_attempt) 986 = .ok (.iload 5, 2) := by decide +kernel
theorem d_Mo_attempt_988 : decode (a_cc M_Mo_attempt) 988 = .ok (.aload_n 0, 1) := by decide +kernel
theorem d_Mo_attempt_989 : decode (a_cc M_Mo_attempt) 989 = .ok (.getfield 245, 3) := by decide +kernel
theorem d_Mo_attempt_992 : decode (a_cc M_Mo_attempt) 992 = .ok (.iadd, 1) := by decide +kernel
theorem d_Mo_attempt_993 : decode (a_cc M_Mo_attempt) 993 = .ok (.iload 7, 2) := by decide +kernel
theorem d_Mo_attempt_995 : decode (a_cc M_Mo_attempt) 995 = .ok (.iadd, 1) := by decide +kernel
theorem d_Mo_attempt_996 : decode (a_cc M_Mo_attempt) 996 = .ok (.iload 6, 2) := by decide +kernel
theorem d_Mo_attempt_998 : decode (a_cc M_Mo_attempt) 998 = .ok (.i2b, 1) := by decide +kernel
theorem d_Mo_attempt_999 : decode (a_cc M_Mo_attempt) 999 = .ok (.bastore, 1) := by decide +kernel
theorem d_Mo_attempt_1000 : decode (a_cc M_Mo_attempt) 1000 = .ok (.iinc 7 1, 3) := by decide +kernel
theorem d_Mo_attempt_1003 : decode (a_cc M_Mo_attempt) 1003 = .ok (.goto (-76), 3) := by decide +kernel
theorem d_Mo_attempt_1006 : decode (a_cc M_Mo_attempt) 1006 = .ok (.iconst 1, 1) := by decide +kernel
theorem d_Mo_attempt_1007 : decode (a_cc M_Mo_attempt) 1007 = .ok (.ireturn, 1) := by decide +kernel
theorem cs_Mo_attempt_13 : a_CV M_Mo_attempt M_Mo_begin 148 10 2 0 1 := ⟨⟨ok_Mo_begin, by decide, by decide, by decide⟩, by decide, rfl, List.mem_append_right _ (List.mem_of_getElem? (i := 1046) (by decide +kernel)), List.mem_append_right _ (List.mem_of_getElem? (i := 1048) (by decide +kernel)), List.mem_append_left _ (List.mem_of_getElem? (i := 33) (by decide +kernel)), by decide +kernel⟩
theorem cs_Mo_attempt_24 : a_CV M_Mo_attempt M_Mo_put3 268 10 4 0 3 := ⟨⟨ok_Mo_put3, by decide, by decide, by decide⟩, by decide, rfl, List.mem_append_right _ (List.mem_of_getElem? (i := 1293) (by decide +kernel)), List.mem_append_right _ (List.mem_of_getElem? (i := 1295) (by decide +kernel)), List.mem_append_left _ (List.mem_of_getElem? (i := 44) (by decide +kernel)), by decide +kernel⟩
theorem cs_Mo_attempt_31 : a_CV M_Mo_attempt M_Mo_put1 153 10 2 0 1 := ⟨⟨ok_Mo_put1, by decide, by decide, by decide⟩, by decide, rfl, List.mem_append_right _ (List.mem_of_getElem? (i := 1058) (by decide +kernel)), List.mem_append_right _ (List.mem_of_getElem? (i := 1060) (by decide +kernel)), List.mem_append_left _ (List.mem_of_getElem? (i := 34) (by decide +kernel)), by decide +kernel⟩
theorem cs_Mo_attempt_41 : a_CV M_Mo_attempt M_Mo_put1 153 10 2 0 1 := ⟨⟨ok_Mo_put1, by decide, by decide, by decide⟩, by decide, rfl, List.mem_append_right _ (List.mem_of_getElem? (i := 1058) (by decide +kernel)), List.mem_append_right _ (List.mem_of_getElem? (i := 1060) (by decide +kernel)), List.mem_append_left _ (List.mem_of_getElem? (i := 34) (by decide +kernel)), by decide +kernel⟩
theorem cs_Mo_attempt_57 : a_CV M_Mo_attempt M_Mo_give 290 10 4 0 3 := ⟨⟨ok_Mo_give, by decide, by decide, by decide⟩, by decide, rfl, List.mem_append_right _ (List.mem_of_getElem? (i := 1297) (by decide +kernel)), List.mem_append_right _ (List.mem_of_getElem? (i := 1299) (by decide +kernel)), List.mem_append_left _ (List.mem_of_getElem? (i := 45) (by decide +kernel)), by decide +kernel⟩
theorem cs_Mo_attempt_88 : a_CV M_Mo_attempt M_Mo_unpack 337 10 6 0 5 := ⟨⟨ok_Mo_unpack, by decide, by decide, by decide⟩, by decide, rfl, List.mem_append_right _ (List.mem_of_getElem? (i := 1375) (by decide +kernel)), List.mem_append_right _ (List.mem_of_getElem? (i := 1377) (by decide +kernel)), List.mem_append_left _ (List.mem_of_getElem? (i := 59) (by decide +kernel)), by decide +kernel⟩
theorem cs_Mo_attempt_116 : a_CS M_Mo_attempt M_Mo_clear 275 1 0 1 := ⟨⟨ok_Mo_clear, by decide, by decide, by decide⟩, List.mem_append_right _ (List.mem_of_getElem? (i := 1332) (by decide +kernel)), List.mem_append_right _ (List.mem_of_getElem? (i := 1333) (by decide +kernel)), by decide +kernel⟩
theorem cs_Mo_attempt_184 : a_CV M_Mo_attempt M_Mo_evaluate 304 10 2 0 1 := ⟨⟨ok_Mo_evaluate, by decide, by decide, by decide⟩, by decide, rfl, List.mem_append_right _ (List.mem_of_getElem? (i := 1325) (by decide +kernel)), List.mem_append_right _ (List.mem_of_getElem? (i := 1327) (by decide +kernel)), List.mem_append_left _ (List.mem_of_getElem? (i := 51) (by decide +kernel)), by decide +kernel⟩
theorem cs_Mo_attempt_204 : a_CV M_Mo_attempt M_Mo_sampleWide 307 10 6 0 5 := ⟨⟨ok_Mo_sampleWide, by decide, by decide, by decide⟩, by decide, rfl, List.mem_append_right _ (List.mem_of_getElem? (i := 1335) (by decide +kernel)), List.mem_append_right _ (List.mem_of_getElem? (i := 1337) (by decide +kernel)), List.mem_append_left _ (List.mem_of_getElem? (i := 52) (by decide +kernel)), by decide +kernel⟩
theorem cs_Mo_attempt_235 : a_CS M_Mo_attempt M_Mo_addProducts 311 3 0 3 := ⟨⟨ok_Mo_addProducts, by decide, by decide, by decide⟩, List.mem_append_right _ (List.mem_of_getElem? (i := 1340) (by decide +kernel)), List.mem_append_right _ (List.mem_of_getElem? (i := 1341) (by decide +kernel)), by decide +kernel⟩
theorem cs_Mo_attempt_254 : a_CV M_Mo_attempt M_Mo_interpolate 315 10 2 0 1 := ⟨⟨ok_Mo_interpolate, by decide, by decide, by decide⟩, by decide, rfl, List.mem_append_right _ (List.mem_of_getElem? (i := 1343) (by decide +kernel)), List.mem_append_right _ (List.mem_of_getElem? (i := 1345) (by decide +kernel)), List.mem_append_left _ (List.mem_of_getElem? (i := 53) (by decide +kernel)), by decide +kernel⟩
theorem cs_Mo_attempt_288 : a_CV M_Mo_attempt M_Mo_high 343 10 2 2 1 := ⟨⟨ok_Mo_high, by decide, by decide, by decide⟩, by decide, rfl, List.mem_append_right _ (List.mem_of_getElem? (i := 1390) (by decide +kernel)), List.mem_append_right _ (List.mem_of_getElem? (i := 1392) (by decide +kernel)), List.mem_append_left _ (List.mem_of_getElem? (i := 62) (by decide +kernel)), by decide +kernel⟩
theorem cs_Mo_attempt_311 : a_CV M_Mo_attempt M_Mo_challenge 346 10 3 0 2 := ⟨⟨ok_Mo_challenge, by decide, by decide, by decide⟩, by decide, rfl, List.mem_append_right _ (List.mem_of_getElem? (i := 1395) (by decide +kernel)), List.mem_append_right _ (List.mem_of_getElem? (i := 1397) (by decide +kernel)), List.mem_append_left _ (List.mem_of_getElem? (i := 63) (by decide +kernel)), by decide +kernel⟩
theorem cs_Mo_attempt_327 : a_CV M_Mo_attempt M_Mo_ball 350 10 4 0 3 := ⟨⟨ok_Mo_ball, by decide, by decide, by decide⟩, by decide, rfl, List.mem_append_right _ (List.mem_of_getElem? (i := 1399) (by decide +kernel)), List.mem_append_right _ (List.mem_of_getElem? (i := 1401) (by decide +kernel)), List.mem_append_left _ (List.mem_of_getElem? (i := 64) (by decide +kernel)), by decide +kernel⟩
theorem cs_Mo_attempt_376 : a_CV M_Mo_attempt M_Mo_few 354 10 4 0 3 := ⟨⟨ok_Mo_few, by decide, by decide, by decide⟩, by decide, rfl, List.mem_append_right _ (List.mem_of_getElem? (i := 1403) (by decide +kernel)), List.mem_append_right _ (List.mem_of_getElem? (i := 1405) (by decide +kernel)), List.mem_append_left _ (List.mem_of_getElem? (i := 65) (by decide +kernel)), by decide +kernel⟩
theorem cs_Mo_attempt_515 : a_CV M_Mo_attempt M_Mo_few 354 10 4 0 3 := ⟨⟨ok_Mo_few, by decide, by decide, by decide⟩, by decide, rfl, List.mem_append_right _ (List.mem_of_getElem? (i := 1403) (by decide +kernel)), List.mem_append_right _ (List.mem_of_getElem? (i := 1405) (by decide +kernel)), List.mem_append_left _ (List.mem_of_getElem? (i := 65) (by decide +kernel)), by decide +kernel⟩
theorem cs_Mo_attempt_588 : a_CV M_Mo_attempt M_Mo_low 357 10 2 0 1 := ⟨⟨ok_Mo_low, by decide, by decide, by decide⟩, by decide, rfl, List.mem_append_right _ (List.mem_of_getElem? (i := 1411) (by decide +kernel)), List.mem_append_right _ (List.mem_of_getElem? (i := 1413) (by decide +kernel)), List.mem_append_left _ (List.mem_of_getElem? (i := 66) (by decide +kernel)), by decide +kernel⟩
theorem cs_Mo_attempt_649 : a_CV M_Mo_attempt M_Mo_few 354 10 4 0 3 := ⟨⟨ok_Mo_few, by decide, by decide, by decide⟩, by decide, rfl, List.mem_append_right _ (List.mem_of_getElem? (i := 1403) (by decide +kernel)), List.mem_append_right _ (List.mem_of_getElem? (i := 1405) (by decide +kernel)), List.mem_append_left _ (List.mem_of_getElem? (i := 65) (by decide +kernel)), by decide +kernel⟩
theorem cs_Mo_attempt_731 : a_CV M_Mo_attempt M_Mo_high 343 10 2 2 1 := ⟨⟨ok_Mo_high, by decide, by decide, by decide⟩, by decide, rfl, List.mem_append_right _ (List.mem_of_getElem? (i := 1390) (by decide +kernel)), List.mem_append_right _ (List.mem_of_getElem? (i := 1392) (by decide +kernel)), List.mem_append_left _ (List.mem_of_getElem? (i := 62) (by decide +kernel)), by decide +kernel⟩
theorem cs_Mo_attempt_748 : a_CV M_Mo_attempt M_Mo_high 343 10 2 3 1 := ⟨⟨ok_Mo_high, by decide, by decide, by decide⟩, by decide, rfl, List.mem_append_right _ (List.mem_of_getElem? (i := 1390) (by decide +kernel)), List.mem_append_right _ (List.mem_of_getElem? (i := 1392) (by decide +kernel)), List.mem_append_left _ (List.mem_of_getElem? (i := 62) (by decide +kernel)), by decide +kernel⟩
theorem cs_Mo_attempt_817 : a_CS M_Mo_attempt M_Mo_move 318 5 0 5 := ⟨⟨ok_Mo_move, by decide, by decide, by decide⟩, List.mem_append_right _ (List.mem_of_getElem? (i := 1348) (by decide +kernel)), List.mem_append_right _ (List.mem_of_getElem? (i := 1349) (by decide +kernel)), by decide +kernel⟩
theorem cs_Mo_attempt_864 : a_CV M_Mo_attempt M_Mo_pack 297 10 6 0 5 := ⟨⟨ok_Mo_pack, by decide, by decide, by decide⟩, by decide, rfl, List.mem_append_right _ (List.mem_of_getElem? (i := 1313) (by decide +kernel)), List.mem_append_right _ (List.mem_of_getElem? (i := 1315) (by decide +kernel)), List.mem_append_left _ (List.mem_of_getElem? (i := 49) (by decide +kernel)), by decide +kernel⟩
