theorem d_L_law_727 : decode c_L_law 727 = .ok (.aload_n 0, 1) := by decide +kernel
theorem d_L_law_728 : decode c_L_law 728 = .ok (.iload 4, 2) := by decide +kernel
theorem d_L_law_730 : decode c_L_law 730 = .ok (.iconst 2, 1) := by decide +kernel
theorem d_L_law_731 : decode c_L_law 731 = .ok (.iadd, 1) := by decide +kernel
theorem d_L_law_732 : decode c_L_law 732 = .ok (.iaload, 1) := by decide +kernel
theorem d_L_law_733 : decode c_L_law 733 = .ok (.aload_n 3, 1) := by decide +kernel
theorem d_L_law_734 : decode c_L_law 734 = .ok (.invokestatic 102, 3) := by decide +kernel
theorem d_L_law_737 : decode c_L_law 737 = .ok (.istore 5, 2) := by decide +kernel
theorem d_L_law_739 : decode c_L_law 739 = .ok (.aload_n 2, 1) := by decide +kernel
theorem d_L_law_740 : decode c_L_law 740 = .ok (.aload_n 0, 1) := by decide +kernel
theorem d_L_law_741 : decode c_L_law 741 = .ok (.iload 4, 2) := by decide +kernel
theorem d_L_law_743 : decode c_L_law 743 = .ok (.iconst 1, 1) := by decide +kernel
theorem d_L_law_744 : decode c_L_law 744 = .ok (.iadd, 1) := by decide +kernel
theorem d_L_law_745 : decode c_L_law 745 = .ok (.iaload, 1) := by decide +kernel
theorem d_L_law_746 : decode c_L_law 746 = .ok (.aload_n 0, 1) := by decide +kernel
theorem d_L_law_747 : decode c_L_law 747 = .ok (.iload 4, 2) := by decide +kernel
theorem d_L_law_749 : decode c_L_law 749 = .ok (.iconst 2, 1) := by decide +kernel
theorem d_L_law_750 : decode c_L_law 750 = .ok (.iadd, 1) := by decide +kernel
theorem d_L_law_751 : decode c_L_law 751 = .ok (.iaload, 1) := by decide +kernel
theorem d_L_law_752 : decode c_L_law 752 = .ok (.invokevirtual 104, 3) := by decide +kernel
theorem d_L_law_755 : decode c_L_law 755 = .ok (.istore 6, 2) := by decide +kernel
theorem d_L_law_757 : decode c_L_law 757 = .ok (.aload_n 2, 1) := by decide +kernel
theorem d_L_law_758 : decode c_L_law 758 = .ok (.invokevirtual 64, 3) := by decide +kernel
theorem d_L_law_761 : decode c_L_law 761 = .ok (.iload 5, 2) := by decide +kernel
theorem d_L_law_763 : decode c_L_law 763 = .ok (.if_icmp .eq 5, 3) := by decide +kernel
theorem d_L_law_766 : decode c_L_law 766 = .ok (.iconst 0, 1) := by decide +kernel
theorem d_L_law_767 : decode c_L_law 767 = .ok (.ireturn, 1) := by decide +kernel
theorem d_L_law_768 : decode c_L_law 768 = .ok (.iload 5, 2) := by decide +kernel
theorem d_L_law_770 : decode c_L_law 770 = .ok (.ifCond .ne 15, 3) := by decide +kernel
theorem d_L_law_773 : decode c_L_law 773 = .ok (.aload_n 3, 1) := by decide +kernel
theorem d_L_law_774 : decode c_L_law 774 = .ok (.iconst 0, 1) := by decide +kernel
theorem d_L_law_775 : decode c_L_law 775 = .ok (.laload, 1) := by decide +kernel
theorem d_L_law_776 : decode c_L_law 776 = .ok (.iload 6, 2) := by decide +kernel
theorem d_L_law_778 : decode c_L_law 778 = .ok (.i2l, 1) := by decide +kernel
theorem d_L_law_779 : decode c_L_law 779 = .ok (.lcmp, 1) := by decide +kernel
theorem d_L_law_780 : decode c_L_law 780 = .ok (.ifCond .eq 5, 3) := by decide +kernel
theorem d_L_law_783 : decode c_L_law 783 = .ok (.iconst 0, 1) := by decide +kernel
theorem d_L_law_784 : decode c_L_law 784 = .ok (.ireturn, 1) := by decide +kernel
theorem d_L_law_785 : decode c_L_law 785 = .ok (.goto 29, 3) := by decide +kernel
theorem d_L_law_788 : decode c_L_law 788 = .ok (.aload_n 1, 1) := by decide +kernel
theorem d_L_law_789 : decode c_L_law 789 = .ok (.invokevirtual 105, 3) := by decide +kernel
theorem d_L_law_792 : decode c_L_law 792 = .ok (.aload_n 2, 1) := by decide +kernel
theorem d_L_law_793 : decode c_L_law 793 = .ok (.invokevirtual 108, 3) := by decide +kernel
theorem d_L_law_796 : decode c_L_law 796 = .ok (.if_icmp .eq 18, 3) := by decide +kernel
theorem d_L_law_799 : decode c_L_law 799 = .ok (.iconst 0, 1) := by decide +kernel
theorem d_L_law_800 : decode c_L_law 800 = .ok (.ireturn, 1) := by decide +kernel
theorem d_L_law_801 : decode c_L_law 801 = .ok (.aload_n 1, 1) := by decide +kernel
theorem d_L_law_802 : decode c_L_law 802 = .ok (.invokevirtual 109, 3) := by decide +kernel
theorem d_L_law_805 : decode c_L_law 805 = .ok (.aload_n 2, 1) := by decide +kernel
theorem d_L_law_806 : decode c_L_law 806 = .ok (.invokevirtual 112, 3) := by decide +kernel
theorem d_L_law_809 : decode c_L_law 809 = .ok (.if_icmp .eq 5, 3) := by decide +kernel
theorem d_L_law_812 : decode c_L_law 812 = .ok (.iconst 0, 1) := by decide +kernel
theorem d_L_law_813 : decode c_L_law 813 = .ok (.ireturn, 1) := by decide +kernel
theorem d_L_law_814 : decode c_L_law 814 = .ok (.iinc 4 5, 3) := by decide +kernel
theorem d_L_law_817 : decode c_L_law 817 = .ok (.goto (-794), 3) := by decide +kernel
theorem d_L_law_820 : decode c_L_law 820 = .ok (.iconst 1, 1) := by decide +kernel
theorem d_L_law_821 : decode c_L_law 821 = .ok (.ireturn, 1) := by decide +kernel
