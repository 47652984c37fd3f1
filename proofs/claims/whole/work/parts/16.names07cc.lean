/-! names, printed by program: methods, their instructions, what they link -/
theorem d_La_law_657 : decode (a_cc M_law) 657 = .ok (.iconst 0, 1) := by decide +kernel
theorem d_La_law_658 : decode (a_cc M_law) 658 = .ok (.ireturn, 1) := by decide +kernel
theorem d_La_law_659 : decode (a_cc M_law) 659 = .ok (.iload 5, 2) := by decide +kernel
theorem d_La_law_661 : decode (a_cc M_law) 661 = .ok (.ifCond .ne 22, 3) := by decide +kernel
theorem d_La_law_664 : decode (a_cc M_law) 664 = .ok (.aload_n 3, 1) := by decide +kernel
theorem d_La_law_665 : decode (a_cc M_law) 665 = .ok (.iconst 0, 1) := by decide +kernel
theorem d_La_law_666 : decode (a_cc M_law) 666 = .ok (.laload, 1) := by decide +kernel
theorem d_La_law_667 : decode (a_cc M_law) 667 = .ok (.iload 6, 2) := by decide +kernel
theorem d_La_law_669 : decode (a_cc M_law) 669 = .ok (.ifCond .eq 7, 3) := by decide +kernel
theorem d_La_law_672 : decode (a_cc M_law) 672 = .ok (.lconst 1, 1) := by decide +kernel
theorem d_La_law_673 : decode (a_cc M_law) 673 = .ok (.goto 4, 3) := by decide +kernel
theorem d_La_law_676 : decode (a_cc M_law) 676 = .ok (.lconst 0, 1) := by decide +kernel
theorem d_La_law_677 : decode (a_cc M_law) 677 = .ok (.lcmp, 1) := by decide +kernel
theorem d_La_law_678 : decode (a_cc M_law) 678 = .ok (.ifCond .eq 5, 3) := by decide +kernel
theorem d_La_law_681 : decode (a_cc M_law) 681 = .ok (.iconst 0, 1) := by decide +kernel
theorem d_La_law_682 : decode (a_cc M_law) 682 = .ok (.ireturn, 1) := by decide +kernel
theorem d_La_law_683 : decode (a_cc M_law) 683 = .ok (.goto 202, 3) := by decide +kernel
theorem d_La_law_686 : decode (a_cc M_law) 686 = .ok (.aload_n 1, 1) := by decide +kernel
theorem d_La_law_687 : decode (a_cc M_law) 687 = .ok (.aload_n 0, 1) := by decide +kernel
theorem d_La_law_688 : decode (a_cc M_law) 688 = .ok (.iload 4, 2) := by decide +kernel
theorem d_La_law_690 : decode (a_cc M_law) 690 = .ok (.iconst 1, 1) := by decide +kernel
theorem d_La_law_691 : decode (a_cc M_law) 691 = .ok (.iadd, 1) := by decide +kernel
theorem d_La_law_692 : decode (a_cc M_law) 692 = .ok (.iaload, 1) := by decide +kernel
theorem d_La_law_693 : decode (a_cc M_law) 693 = .ok (.aload_n 3, 1) := by decide +kernel
theorem d_La_law_694 : decode (a_cc M_law) 694 = .ok (.invokestatic 96, 3) := by decide +kernel
theorem d_La_law_697 : decode (a_cc M_law) 697 = .ok (.istore 5, 2) := by decide +kernel
theorem d_La_law_699 : decode (a_cc M_law) 699 = .ok (.aload_n 2, 1) := by decide +kernel
theorem d_La_law_700 : decode (a_cc M_law) 700 = .ok (.aload_n 0, 1) := by decide +kernel
theorem d_La_law_701 : decode (a_cc M_law) 701 = .ok (.iload 4, 2) := by decide +kernel
theorem d_La_law_703 : decode (a_cc M_law) 703 = .ok (.iconst 1, 1) := by decide +kernel
theorem d_La_law_704 : decode (a_cc M_law) 704 = .ok (.iadd, 1) := by decide +kernel
theorem d_La_law_705 : decode (a_cc M_law) 705 = .ok (.iaload, 1) := by decide +kernel
theorem d_La_law_706 : decode (a_cc M_law) 706 = .ok (.invokevirtual 98, 3) := by decide +kernel
theorem d_La_law_709 : decode (a_cc M_law) 709 = .ok (.istore 6, 2) := by decide +kernel
theorem d_La_law_711 : decode (a_cc M_law) 711 = .ok (.aload_n 2, 1) := by decide +kernel
theorem d_La_law_712 : decode (a_cc M_law) 712 = .ok (.invokevirtual 68, 3) := by decide +kernel
theorem d_La_law_715 : decode (a_cc M_law) 715 = .ok (.iload 5, 2) := by decide +kernel
theorem d_La_law_717 : decode (a_cc M_law) 717 = .ok (.if_icmp .eq 5, 3) := by decide +kernel
theorem d_La_law_720 : decode (a_cc M_law) 720 = .ok (.iconst 0, 1) := by decide +kernel
theorem d_La_law_721 : decode (a_cc M_law) 721 = .ok (.ireturn, 1) := by decide +kernel
theorem d_La_law_722 : decode (a_cc M_law) 722 = .ok (.iload 5, 2) := by decide +kernel
theorem d_La_law_724 : decode (a_cc M_law) 724 = .ok (.ifCond .ne 15, 3) := by decide +kernel
theorem d_La_law_727 : decode (a_cc M_law) 727 = .ok (.aload_n 3, 1) := by decide +kernel
theorem d_La_law_728 : decode (a_cc M_law) 728 = .ok (.iconst 0, 1) := by decide +kernel
theorem d_La_law_729 : decode (a_cc M_law) 729 = .ok (.laload, 1) := by decide +kernel
theorem d_La_law_730 : decode (a_cc M_law) 730 = .ok (.iload 6, 2) := by decide +kernel
theorem d_La_law_732 : decode (a_cc M_law) 732 = .ok (.i2l, 1) := by decide +kernel
theorem d_La_law_733 : decode (a_cc M_law) 733 = .ok (.lcmp, 1) := by decide +kernel
theorem d_La_law_734 : decode (a_cc M_law) 734 = .ok (.ifCond .eq 5, 3) := by decide +kernel
theorem d_La_law_737 : decode (a_cc M_law) 737 = .ok (.iconst 0, 1) := by decide +kernel
theorem d_La_law_738 : decode (a_cc M_law) 738 = .ok (.ireturn, 1) := by decide +kernel
theorem d_La_law_739 : decode (a_cc M_law) 739 = .ok (.goto 146, 3) := by decide +kernel
theorem d_La_law_742 : decode (a_cc M_law) 742 = .ok (.aload_n 1, 1) := by decide +kernel
theorem d_La_law_743 : decode (a_cc M_law) 743 = .ok (.aload_n 0, 1) := by decide +kernel
theorem d_La_law_744 : decode (a_cc M_law) 744 = .ok (.iload 4, 2) := by decide +kernel
theorem d_La_law_746 : decode (a_cc M_law) 746 = .ok (.iconst 1, 1) := by decide +kernel
theorem d_La_law_747 : decode (a_cc M_law) 747 = .ok (.iadd, 1) := by decide +kernel
theorem d_La_law_748 : decode (a_cc M_law) 748 = .ok (.iaload, 1) := by decide +kernel
theorem d_La_law_749 : decode (a_cc M_law) 749 = .ok (.aload_n 0, 1) := by decide +kernel
theorem d_La_law_750 : decode (a_cc M_law) 750 = .ok (.iload 4, 2) := by decide +kernel
theorem d_La_law_752 : decode (a_cc M_law) 752 = .ok (.iconst 2, 1) := by decide +kernel
theorem d_La_law_753 : decode (a_cc M_law) 753 = .ok (.iadd, 1) := by decide +kernel
theorem d_La_law_754 : decode (a_cc M_law) 754 = .ok (.iaload, 1) := by decide +kernel
theorem d_La_law_755 : decode (a_cc M_law) 755 = .ok (.aload_n 3, 1) := by decide +kernel
theorem d_La_law_756 : decode (a_cc M_law) 756 = .ok (.invokestatic 99, 3) := by decide +kernel
theorem d_La_law_759 : decode (a_cc M_law) 759 = .ok (.istore 5, 2) := by decide +kernel
theorem d_La_law_761 : decode (a_cc M_law) 761 = .ok (.aload_n 2, 1) := by decide +kernel
theorem d_La_law_762 : decode (a_cc M_law) 762 = .ok (.aload_n 0, 1) := by decide +kernel
theorem d_La_law_763 : decode (a_cc M_law) 763 = .ok (.iload 4, 2) := by decide +kernel
theorem d_La_law_765 : decode (a_cc M_law) 765 = .ok (.iconst 1, 1) := by decide +kernel
theorem d_La_law_766 : decode (a_cc M_law) 766 = .ok (.iadd, 1) := by decide +kernel
theorem d_La_law_767 : decode (a_cc M_law) 767 = .ok (.iaload, 1) := by decide +kernel
theorem d_La_law_768 : decode (a_cc M_law) 768 = .ok (.aload_n 0, 1) := by decide +kernel
theorem d_La_law_769 : decode (a_cc M_law) 769 = .ok (.iload 4, 2) := by decide +kernel
theorem d_La_law_771 : decode (a_cc M_law) 771 = .ok (.iconst 2, 1) := by decide +kernel
theorem d_La_law_772 : decode (a_cc M_law) 772 = .ok (.iadd, 1) := by decide +kernel
theorem d_La_law_773 : decode (a_cc M_law) 773 = .ok (.iaload, 1) := by decide +kernel
theorem d_La_law_774 : decode (a_cc M_law) 774 = .ok (.invokevirtual 101, 3) := by decide +kernel
theorem d_La_law_777 : decode (a_cc M_law) 777 = .ok (.istore 6, 2) := by decide +kernel
theorem d_La_law_779 : decode (a_cc M_law) 779 = .ok (.aload_n 2, 1) := by decide +kernel
theorem d_La_law_780 : decode (a_cc M_law) 780 = .ok (.invokevirtual 68, 3) := by decide +kernel
theorem d_La_law_783 : decode (a_cc M_law) 783 = .ok (.iload 5, 2) := by decide +kernel
theorem d_La_law_785 : decode (a_cc M_law) 785 = .ok (.if_icmp .eq 5, 3) := by decide +kernel
theorem d_La_law_788 : decode (a_cc M_law) 788 = .ok (.iconst 0, 1) := by decide +kernel
theorem d_La_law_789 : decode (a_cc M_law) 789 = .ok (.ireturn, 1) := by decide +kernel
theorem d_La_law_790 : decode (a_cc M_law) 790 = .ok (.iload 5, 2) := by decide +kernel
theorem d_La_law_792 : decode (a_cc M_law) 792 = .ok (.ifCond .ne 15, 3) := by decide +kernel
theorem d_La_law_795 : decode (a_cc M_law) 795 = .ok (.aload_n 3, 1) := by decide +kernel
theorem d_La_law_796 : decode (a_cc M_law) 796 = .ok (.iconst 0, 1) := by decide +kernel
theorem d_La_law_797 : decode (a_cc M_law) 797 = .ok (.laload, 1) := by decide +kernel
theorem d_La_law_798 : decode (a_cc M_law) 798 = .ok (.iload 6, 2) := by decide +kernel
theorem d_La_law_800 : decode (a_cc M_law) 800 = .ok (.i2l, 1) := by decide +kernel
theorem d_La_law_801 : decode (a_cc M_law) 801 = .ok (.lcmp, 1) := by decide +kernel
theorem d_La_law_802 : decode (a_cc M_law) 802 = .ok (.ifCond .eq 5, 3) := by decide +kernel
theorem d_La_law_805 : decode (a_cc M_law) 805 = .ok (.iconst 0, 1) := by decide +kernel
theorem d_La_law_806 : decode (a_cc M_law) 806 = .ok (.ireturn, 1) := by decide +kernel
theorem d_La_law_807 : decode (a_cc M_law) 807 = .ok (.goto 78, 3) := by decide +kernel
theorem d_La_law_810 : decode (a_cc M_law) 810 = .ok (.aload_n 1, 1) := by decide +kernel
theorem d_La_law_811 : decode (a_cc M_law) 811 = .ok (.aload_n 0, 1) := by decide +kernel
theorem d_La_law_812 : decode (a_cc M_law) 812 = .ok (.iload 4, 2) := by decide +kernel
theorem d_La_law_814 : decode (a_cc M_law) 814 = .ok (.iconst 1, 1) := by decide +kernel
theorem d_La_law_815 : decode (a_cc M_law) 815 = .ok (.iadd, 1) := by decide +kernel
theorem d_La_law_816 : decode (a_cc M_law) 816 = .ok (.iaload, 1) := by decide +kernel
theorem d_La_law_817 : decode (a_cc M_law) 817 = .ok (.aload_n 0, 1) := by decide +kernel
theorem d_La_law_818 : decode (a_cc M_law) 818 = .ok (.iload 4, 2) := by decide +kernel
theorem d_La_law_820 : decode (a_cc M_law) 820 = .ok (.iconst 2, 1) := by decide +kernel
theorem d_La_law_821 : decode (a_cc M_law) 821 = .ok (.iadd, 1) := by decide +kernel
theorem d_La_law_822 : decode (a_cc M_law) 822 = .ok (.iaload, 1) := by decide +kernel
theorem d_La_law_823 : decode (a_cc M_law) 823 = .ok (.aload_n 3, 1) := by decide +kernel
theorem d_La_law_824 : decode (a_cc M_law) 824 = .ok (.invokestatic 102, 3) := by decide +kernel
theorem d_La_law_827 : decode (a_cc M_law) 827 = .ok (.istore 5, 2) := by decide +kernel
theorem d_La_law_829 : decode (a_cc M_law) 829 = .ok (.aload_n 2, 1) := by decide +kernel
theorem d_La_law_830 : decode (a_cc M_law) 830 = .ok (.aload_n 0, 1) := by decide +kernel
theorem d_La_law_831 : decode (a_cc M_law) 831 = .ok (.iload 4, 2) := by decide +kernel
theorem d_La_law_833 : decode (a_cc M_law) 833 = .ok (.iconst 1, 1) := by decide +kernel
theorem d_La_law_834 : decode (a_cc M_law) 834 = .ok (.iadd, 1) := by decide +kernel
theorem d_La_law_835 : decode (a_cc M_law) 835 = .ok (.iaload, 1) := by decide +kernel
theorem d_La_law_836 : decode (a_cc M_law) 836 = .ok (.aload_n 0, 1) := by decide +kernel
theorem d_La_law_837 : decode (a_cc M_law) 837 = .ok (.iload 4, 2) := by decide +kernel
theorem d_La_law_839 : decode (a_cc M_law) 839 = .ok (.iconst 2, 1) := by decide +kernel
theorem d_La_law_840 : decode (a_cc M_law) 840 = .ok (.iadd, 1) := by decide +kernel
theorem d_La_law_841 : decode (a_cc M_law) 841 = .ok (.iaload, 1) := by decide +kernel
theorem d_La_law_842 : decode (a_cc M_law) 842 = .ok (.invokevirtual 104, 3) := by decide +kernel
theorem d_La_law_845 : decode (a_cc M_law) 845 = .ok (.istore 6, 2) := by decide +kernel
theorem d_La_law_847 : decode (a_cc M_law) 847 = .ok (.aload_n 2, 1) := by decide +kernel
theorem d_La_law_848 : decode (a_cc M_law) 848 = .ok (.invokevirtual 68, 3) := by decide +kernel
theorem d_La_law_851 : decode (a_cc M_law) 851 = .ok (.iload 5, 2) := by decide +kernel
theorem d_La_law_853 : decode (a_cc M_law) 853 = .ok (.if_icmp .eq 5, 3) := by decide +kernel
theorem d_La_law_856 : decode (a_cc M_law) 856 = .ok (.iconst 0, 1) := by decide +kernel
theorem d_La_law_857 : decode (a_cc M_law) 857 = .ok (.ireturn, 1) := by decide +kernel
theorem d_La_law_858 : decode (a_cc M_law) 858 = .ok (.iload 5, 2) := by decide +kernel
theorem d_La_law_860 : decode (a_cc M_law) 860 = .ok (.ifCond .ne 22, 3) := by decide +kernel
theorem d_La_law_863 : decode (a_cc M_law) 863 = .ok (.aload_n 3, 1) := by decide +kernel
theorem d_La_law_864 : decode (a_cc M_law) 864 = .ok (.iconst 0, 1) := by decide +kernel
theorem d_La_law_865 : decode (a_cc M_law) 865 = .ok (.laload, 1) := by decide +kernel
theorem d_La_law_866 : decode (a_cc M_law) 866 = .ok (.iload 6, 2) := by decide +kernel
theorem d_La_law_868 : decode (a_cc M_law) 868 = .ok (.ifCond .eq 7, 3) := by decide +kernel
theorem d_La_law_871 : decode (a_cc M_law) 871 = .ok (.lconst 1, 1) := by decide +kernel
theorem d_La_law_872 : decode (a_cc M_law) 872 = .ok (.goto 4, 3) := by decide +kernel
theorem d_La_law_875 : decode (a_cc M_law) 875 = .ok (.lconst 0, 1) := by decide +kernel
theorem d_La_law_876 : decode (a_cc M_law) 876 = .ok (.lcmp, 1) := by decide +kernel
theorem d_La_law_877 : decode (a_cc M_law) 877 = .ok (.ifCond .eq 5, 3) := by decide +kernel
theorem d_La_law_880 : decode (a_cc M_law) 880 = .ok (.iconst 0, 1) := by decide +kernel
theorem d_La_law_881 : decode (a_cc M_law) 881 = .ok (.ireturn, 1) := by decide +kernel
theorem d_La_law_882 : decode (a_cc M_law) 882 = .ok (.goto 3, 3) := by decide +kernel
theorem d_La_law_885 : decode (a_cc M_law) 885 = .ok (.iinc 4 6, 3) := by decide +kernel
theorem d_La_law_888 : decode (a_cc M_law) 888 = .ok (.goto (-865), 3) := by decide +kernel
theorem d_La_law_891 : decode (a_cc M_law) 891 = .ok (.iconst 1, 1) := by decide +kernel
theorem d_La_law_892 : decode (a_cc M_law) 892 = .ok (.ireturn, 1) := by decide +kernel
theorem nw_La_8 : Cond.classLink "ModuleSignerLaw" 8 (a_cn 0) ∈ lw_tbl := List.mem_append_right _ (List.mem_of_getElem? (i := 22) (by decide +kernel))
theorem cs_La_law_4 : a_CI M_law M_MS_init 58 1 1 0 := ⟨⟨ok_MS_init, by decide, by decide, by decide⟩, rfl, rfl, List.mem_append_right _ (List.mem_of_getElem? (i := 26) (by decide +kernel)), List.mem_append_right _ (List.mem_of_getElem? (i := 24) (by decide +kernel)), List.mem_append_right _ (List.mem_of_getElem? (i := 25) (by decide +kernel)), by decide +kernel⟩
theorem nw_La_59 : Cond.classLink "ModuleSignerLaw" 59 (a_cn 10) ∈ lw_tbl := List.mem_append_right _ (List.mem_of_getElem? (i := 1012) (by decide +kernel))
theorem cs_La_law_12 : a_CI M_law M_Mo_init 61 1 1 0 := ⟨⟨ok_Mo_init, by decide, by decide, by decide⟩, rfl, rfl, List.mem_append_right _ (List.mem_of_getElem? (i := 1016) (by decide +kernel)), List.mem_append_right _ (List.mem_of_getElem? (i := 1014) (by decide +kernel)), List.mem_append_right _ (List.mem_of_getElem? (i := 1015) (by decide +kernel)), by decide +kernel⟩
theorem cs_La_law_132 : a_CS M_law M_La_feed 62 7 0 7 := ⟨⟨ok_La_feed, by decide, by decide, by decide⟩, List.mem_append_right _ (List.mem_of_getElem? (i := 374) (by decide +kernel)), List.mem_append_right _ (List.mem_of_getElem? (i := 375) (by decide +kernel)), by decide +kernel⟩
theorem cs_La_law_168 : a_CV M_law M_Mo_feed 67 10 6 0 5 := ⟨⟨ok_Mo_feed, by decide, by decide, by decide⟩, by decide, rfl, List.mem_append_right _ (List.mem_of_getElem? (i := 1236) (by decide +kernel)), List.mem_append_right _ (List.mem_of_getElem? (i := 1237) (by decide +kernel)), List.mem_append_right _ (List.mem_of_getElem? (i := 1238) (by decide +kernel)), by decide +kernel⟩
theorem cs_La_law_174 : a_CV M_law M_Mo_thrown 68 10 1 0 0 := ⟨⟨ok_Mo_thrown, by decide, by decide, by decide⟩, by decide, rfl, List.mem_append_right _ (List.mem_of_getElem? (i := 1232) (by decide +kernel)), List.mem_append_right _ (List.mem_of_getElem? (i := 1233) (by decide +kernel)), List.mem_append_right _ (List.mem_of_getElem? (i := 1234) (by decide +kernel)), by decide +kernel⟩
theorem cs_La_law_218 : a_CS M_law M_La_end 72 4 0 4 := ⟨⟨ok_La_end, by decide, by decide, by decide⟩, List.mem_append_right _ (List.mem_of_getElem? (i := 459) (by decide +kernel)), List.mem_append_right _ (List.mem_of_getElem? (i := 460) (by decide +kernel)), by decide +kernel⟩
theorem cs_La_law_236 : a_CV M_law M_Mo_end 75 10 3 0 2 := ⟨⟨ok_Mo_end, by decide, by decide, by decide⟩, by decide, rfl, List.mem_append_right _ (List.mem_of_getElem? (i := 1248) (by decide +kernel)), List.mem_append_right _ (List.mem_of_getElem? (i := 1249) (by decide +kernel)), List.mem_append_right _ (List.mem_of_getElem? (i := 1250) (by decide +kernel)), by decide +kernel⟩
theorem cs_La_law_242 : a_CV M_law M_Mo_thrown 68 10 1 0 0 := ⟨⟨ok_Mo_thrown, by decide, by decide, by decide⟩, by decide, rfl, List.mem_append_right _ (List.mem_of_getElem? (i := 1232) (by decide +kernel)), List.mem_append_right _ (List.mem_of_getElem? (i := 1233) (by decide +kernel)), List.mem_append_right _ (List.mem_of_getElem? (i := 1234) (by decide +kernel)), by decide +kernel⟩
theorem cs_La_law_286 : a_CS M_law M_La_copy 76 4 0 4 := ⟨⟨ok_La_copy, by decide, by decide, by decide⟩, List.mem_append_right _ (List.mem_of_getElem? (i := 505) (by decide +kernel)), List.mem_append_right _ (List.mem_of_getElem? (i := 506) (by decide +kernel)), by decide +kernel⟩
theorem cs_La_law_304 : a_CV M_law M_Mo_copy 78 10 3 0 2 := ⟨⟨ok_Mo_copy, by decide, by decide, by decide⟩, by decide, rfl, List.mem_append_right _ (List.mem_of_getElem? (i := 1255) (by decide +kernel)), List.mem_append_right _ (List.mem_of_getElem? (i := 1256) (by decide +kernel)), List.mem_append_right _ (List.mem_of_getElem? (i := 1257) (by decide +kernel)), by decide +kernel⟩
theorem cs_La_law_310 : a_CV M_law M_Mo_thrown 68 10 1 0 0 := ⟨⟨ok_Mo_thrown, by decide, by decide, by decide⟩, by decide, rfl, List.mem_append_right _ (List.mem_of_getElem? (i := 1232) (by decide +kernel)), List.mem_append_right _ (List.mem_of_getElem? (i := 1233) (by decide +kernel)), List.mem_append_right _ (List.mem_of_getElem? (i := 1234) (by decide +kernel)), by decide +kernel⟩
theorem cs_La_law_354 : a_CS M_law M_La_resize 79 4 0 4 := ⟨⟨ok_La_resize, by decide, by decide, by decide⟩, List.mem_append_right _ (List.mem_of_getElem? (i := 512) (by decide +kernel)), List.mem_append_right _ (List.mem_of_getElem? (i := 513) (by decide +kernel)), by decide +kernel⟩
theorem cs_La_law_372 : a_CV M_law M_Mo_resize 81 10 3 0 2 := ⟨⟨ok_Mo_resize, by decide, by decide, by decide⟩, by decide, rfl, List.mem_append_right _ (List.mem_of_getElem? (i := 1259) (by decide +kernel)), List.mem_append_right _ (List.mem_of_getElem? (i := 1260) (by decide +kernel)), List.mem_append_right _ (List.mem_of_getElem? (i := 1261) (by decide +kernel)), by decide +kernel⟩
theorem cs_La_law_378 : a_CV M_law M_Mo_thrown 68 10 1 0 0 := ⟨⟨ok_Mo_thrown, by decide, by decide, by decide⟩, by decide, rfl, List.mem_append_right _ (List.mem_of_getElem? (i := 1232) (by decide +kernel)), List.mem_append_right _ (List.mem_of_getElem? (i := 1233) (by decide +kernel)), List.mem_append_right _ (List.mem_of_getElem? (i := 1234) (by decide +kernel)), by decide +kernel⟩
theorem cs_La_law_428 : a_CS M_law M_La_alter 82 5 0 5 := ⟨⟨ok_La_alter, by decide, by decide, by decide⟩, List.mem_append_right _ (List.mem_of_getElem? (i := 523) (by decide +kernel)), List.mem_append_right _ (List.mem_of_getElem? (i := 524) (by decide +kernel)), by decide +kernel⟩
theorem cs_La_law_452 : a_CV M_law M_Mo_alter 85 10 4 0 3 := ⟨⟨ok_Mo_alter, by decide, by decide, by decide⟩, by decide, rfl, List.mem_append_right _ (List.mem_of_getElem? (i := 1263) (by decide +kernel)), List.mem_append_right _ (List.mem_of_getElem? (i := 1264) (by decide +kernel)), List.mem_append_right _ (List.mem_of_getElem? (i := 1265) (by decide +kernel)), by decide +kernel⟩
theorem cs_La_law_458 : a_CV M_law M_Mo_thrown 68 10 1 0 0 := ⟨⟨ok_Mo_thrown, by decide, by decide, by decide⟩, by decide, rfl, List.mem_append_right _ (List.mem_of_getElem? (i := 1232) (by decide +kernel)), List.mem_append_right _ (List.mem_of_getElem? (i := 1233) (by decide +kernel)), List.mem_append_right _ (List.mem_of_getElem? (i := 1234) (by decide +kernel)), by decide +kernel⟩
theorem cs_La_law_496 : a_CS M_law M_La_length 86 3 0 3 := ⟨⟨ok_La_length, by decide, by decide, by decide⟩, List.mem_append_right _ (List.mem_of_getElem? (i := 540) (by decide +kernel)), List.mem_append_right _ (List.mem_of_getElem? (i := 541) (by decide +kernel)), by decide +kernel⟩
theorem cs_La_law_508 : a_CV M_law M_Mo_length 89 10 2 0 1 := ⟨⟨ok_Mo_length, by decide, by decide, by decide⟩, by decide, rfl, List.mem_append_right _ (List.mem_of_getElem? (i := 1267) (by decide +kernel)), List.mem_append_right _ (List.mem_of_getElem? (i := 1268) (by decide +kernel)), List.mem_append_right _ (List.mem_of_getElem? (i := 1269) (by decide +kernel)), by decide +kernel⟩
theorem cs_La_law_514 : a_CV M_law M_Mo_thrown 68 10 1 0 0 := ⟨⟨ok_Mo_thrown, by decide, by decide, by decide⟩, by decide, rfl, List.mem_append_right _ (List.mem_of_getElem? (i := 1232) (by decide +kernel)), List.mem_append_right _ (List.mem_of_getElem? (i := 1233) (by decide +kernel)), List.mem_append_right _ (List.mem_of_getElem? (i := 1234) (by decide +kernel)), by decide +kernel⟩
theorem cs_La_law_558 : a_CS M_law M_La_word 90 4 0 4 := ⟨⟨ok_La_word, by decide, by decide, by decide⟩, List.mem_append_right _ (List.mem_of_getElem? (i := 547) (by decide +kernel)), List.mem_append_right _ (List.mem_of_getElem? (i := 548) (by decide +kernel)), by decide +kernel⟩
theorem cs_La_law_576 : a_CV M_law M_Mo_word2 92 10 3 0 2 := ⟨⟨ok_Mo_word2, by decide, by decide, by decide⟩, by decide, rfl, List.mem_append_right _ (List.mem_of_getElem? (i := 1271) (by decide +kernel)), List.mem_append_right _ (List.mem_of_getElem? (i := 1272) (by decide +kernel)), List.mem_append_right _ (List.mem_of_getElem? (i := 1273) (by decide +kernel)), by decide +kernel⟩
theorem cs_La_law_582 : a_CV M_law M_Mo_thrown 68 10 1 0 0 := ⟨⟨ok_Mo_thrown, by decide, by decide, by decide⟩, by decide, rfl, List.mem_append_right _ (List.mem_of_getElem? (i := 1232) (by decide +kernel)), List.mem_append_right _ (List.mem_of_getElem? (i := 1233) (by decide +kernel)), List.mem_append_right _ (List.mem_of_getElem? (i := 1234) (by decide +kernel)), by decide +kernel⟩
theorem cs_La_law_625 : a_CS M_law M_La_same 93 4 0 4 := ⟨⟨ok_La_same, by decide, by decide, by decide⟩, List.mem_append_right _ (List.mem_of_getElem? (i := 554) (by decide +kernel)), List.mem_append_right _ (List.mem_of_getElem? (i := 555) (by decide +kernel)), by decide +kernel⟩
theorem cs_La_law_643 : a_CV M_law M_Mo_same 95 10 3 0 2 := ⟨⟨ok_Mo_same, by decide, by decide, by decide⟩, by decide, rfl, List.mem_append_right _ (List.mem_of_getElem? (i := 1275) (by decide +kernel)), List.mem_append_right _ (List.mem_of_getElem? (i := 1276) (by decide +kernel)), List.mem_append_right _ (List.mem_of_getElem? (i := 1277) (by decide +kernel)), by decide +kernel⟩
theorem cs_La_law_649 : a_CV M_law M_Mo_thrown 68 10 1 0 0 := ⟨⟨ok_Mo_thrown, by decide, by decide, by decide⟩, by decide, rfl, List.mem_append_right _ (List.mem_of_getElem? (i := 1232) (by decide +kernel)), List.mem_append_right _ (List.mem_of_getElem? (i := 1233) (by decide +kernel)), List.mem_append_right _ (List.mem_of_getElem? (i := 1234) (by decide +kernel)), by decide +kernel⟩
theorem cs_La_law_694 : a_CS M_law M_La_dsaKeys 96 3 0 3 := ⟨⟨ok_La_dsaKeys, by decide, by decide, by decide⟩, List.mem_append_right _ (List.mem_of_getElem? (i := 566) (by decide +kernel)), List.mem_append_right _ (List.mem_of_getElem? (i := 567) (by decide +kernel)), by decide +kernel⟩
theorem cs_La_law_706 : a_CV M_law M_Mo_dsaKeys 98 10 2 0 1 := ⟨⟨ok_Mo_dsaKeys, by decide, by decide, by decide⟩, by decide, rfl, List.mem_append_right _ (List.mem_of_getElem? (i := 1279) (by decide +kernel)), List.mem_append_right _ (List.mem_of_getElem? (i := 1280) (by decide +kernel)), List.mem_append_right _ (List.mem_of_getElem? (i := 1281) (by decide +kernel)), by decide +kernel⟩
theorem cs_La_law_712 : a_CV M_law M_Mo_thrown 68 10 1 0 0 := ⟨⟨ok_Mo_thrown, by decide, by decide, by decide⟩, by decide, rfl, List.mem_append_right _ (List.mem_of_getElem? (i := 1232) (by decide +kernel)), List.mem_append_right _ (List.mem_of_getElem? (i := 1233) (by decide +kernel)), List.mem_append_right _ (List.mem_of_getElem? (i := 1234) (by decide +kernel)), by decide +kernel⟩
theorem cs_La_law_756 : a_CS M_law M_La_dsaSign 99 4 0 4 := ⟨⟨ok_La_dsaSign, by decide, by decide, by decide⟩, List.mem_append_right _ (List.mem_of_getElem? (i := 774) (by decide +kernel)), List.mem_append_right _ (List.mem_of_getElem? (i := 775) (by decide +kernel)), by decide +kernel⟩
theorem cs_La_law_774 : a_CV M_law M_Mo_dsaSign 101 10 3 0 2 := ⟨⟨ok_Mo_dsaSign, by decide, by decide, by decide⟩, by decide, rfl, List.mem_append_right _ (List.mem_of_getElem? (i := 1355) (by decide +kernel)), List.mem_append_right _ (List.mem_of_getElem? (i := 1356) (by decide +kernel)), List.mem_append_right _ (List.mem_of_getElem? (i := 1357) (by decide +kernel)), by decide +kernel⟩
theorem cs_La_law_780 : a_CV M_law M_Mo_thrown 68 10 1 0 0 := ⟨⟨ok_Mo_thrown, by decide, by decide, by decide⟩, by decide, rfl, List.mem_append_right _ (List.mem_of_getElem? (i := 1232) (by decide +kernel)), List.mem_append_right _ (List.mem_of_getElem? (i := 1233) (by decide +kernel)), List.mem_append_right _ (List.mem_of_getElem? (i := 1234) (by decide +kernel)), by decide +kernel⟩
theorem cs_La_law_824 : a_CS M_law M_La_dsaVerify 102 4 0 4 := ⟨⟨ok_La_dsaVerify, by decide, by decide, by decide⟩, List.mem_append_right _ (List.mem_of_getElem? (i := 939) (by decide +kernel)), List.mem_append_right _ (List.mem_of_getElem? (i := 940) (by decide +kernel)), by decide +kernel⟩
theorem cs_La_law_842 : a_CV M_law M_Mo_dsaVerify 104 10 3 0 2 := ⟨⟨ok_Mo_dsaVerify, by decide, by decide, by decide⟩, by decide, rfl, List.mem_append_right _ (List.mem_of_getElem? (i := 1415) (by decide +kernel)), List.mem_append_right _ (List.mem_of_getElem? (i := 1416) (by decide +kernel)), List.mem_append_right _ (List.mem_of_getElem? (i := 1417) (by decide +kernel)), by decide +kernel⟩
theorem cs_La_law_848 : a_CV M_law M_Mo_thrown 68 10 1 0 0 := ⟨⟨ok_Mo_thrown, by decide, by decide, by decide⟩, by decide, rfl, List.mem_append_right _ (List.mem_of_getElem? (i := 1232) (by decide +kernel)), List.mem_append_right _ (List.mem_of_getElem? (i := 1233) (by decide +kernel)), List.mem_append_right _ (List.mem_of_getElem? (i := 1234) (by decide +kernel)), by decide +kernel⟩
