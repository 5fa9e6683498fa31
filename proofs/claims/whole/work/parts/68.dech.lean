theorem d_LA_law_780 : decode code 780 = .ok (.invokestatic 111, 3) := by decide +kernel
theorem d_LA_law_783 : decode code 783 = .ok (.istore 5, 2) := by decide +kernel
theorem d_LA_law_785 : decode code 785 = .ok (.aload_n 2, 1) := by decide +kernel
theorem d_LA_law_786 : decode code 786 = .ok (.aload_n 0, 1) := by decide +kernel
theorem d_LA_law_787 : decode code 787 = .ok (.iload 4, 2) := by decide +kernel
theorem d_LA_law_789 : decode code 789 = .ok (.iconst 1, 1) := by decide +kernel
theorem d_LA_law_790 : decode code 790 = .ok (.iadd, 1) := by decide +kernel
theorem d_LA_law_791 : decode code 791 = .ok (.iaload, 1) := by decide +kernel
theorem d_LA_law_792 : decode code 792 = .ok (.aload_n 0, 1) := by decide +kernel
theorem d_LA_law_793 : decode code 793 = .ok (.iload 4, 2) := by decide +kernel
theorem d_LA_law_795 : decode code 795 = .ok (.iconst 2, 1) := by decide +kernel
theorem d_LA_law_796 : decode code 796 = .ok (.iadd, 1) := by decide +kernel
theorem d_LA_law_797 : decode code 797 = .ok (.iaload, 1) := by decide +kernel
theorem d_LA_law_798 : decode code 798 = .ok (.invokevirtual 113, 3) := by decide +kernel
theorem d_LA_law_801 : decode code 801 = .ok (.istore 6, 2) := by decide +kernel
theorem d_LA_law_803 : decode code 803 = .ok (.aload_n 2, 1) := by decide +kernel
theorem d_LA_law_804 : decode code 804 = .ok (.invokevirtual 74, 3) := by decide +kernel
theorem d_LA_law_807 : decode code 807 = .ok (.iload 5, 2) := by decide +kernel
theorem d_LA_law_809 : decode code 809 = .ok (.if_icmp .eq 5, 3) := by decide +kernel
theorem d_LA_law_814 : decode code 814 = .ok (.iload 5, 2) := by decide +kernel
theorem d_LA_law_816 : decode code 816 = .ok (.ifCond .ne 15, 3) := by decide +kernel
theorem d_LA_law_819 : decode code 819 = .ok (.aload_n 3, 1) := by decide +kernel
theorem d_LA_law_820 : decode code 820 = .ok (.iconst 0, 1) := by decide +kernel
theorem d_LA_law_821 : decode code 821 = .ok (.laload, 1) := by decide +kernel
theorem d_LA_law_822 : decode code 822 = .ok (.iload 6, 2) := by decide +kernel
theorem d_LA_law_824 : decode code 824 = .ok (.i2l, 1) := by decide +kernel
theorem d_LA_law_825 : decode code 825 = .ok (.lcmp, 1) := by decide +kernel
theorem d_LA_law_826 : decode code 826 = .ok (.ifCond .eq 5, 3) := by decide +kernel
theorem d_LA_law_831 : decode code 831 = .ok (.goto 277, 3) := by decide +kernel
theorem d_LA_law_834 : decode code 834 = .ok (.aload_n 1, 1) := by decide +kernel
theorem d_LA_law_835 : decode code 835 = .ok (.aload_n 0, 1) := by decide +kernel
theorem d_LA_law_836 : decode code 836 = .ok (.iload 4, 2) := by decide +kernel
theorem d_LA_law_838 : decode code 838 = .ok (.iconst 1, 1) := by decide +kernel
theorem d_LA_law_839 : decode code 839 = .ok (.iadd, 1) := by decide +kernel
theorem d_LA_law_840 : decode code 840 = .ok (.iaload, 1) := by decide +kernel
theorem d_LA_law_841 : decode code 841 = .ok (.aload_n 0, 1) := by decide +kernel
theorem d_LA_law_842 : decode code 842 = .ok (.iload 4, 2) := by decide +kernel
theorem d_LA_law_844 : decode code 844 = .ok (.iconst 2, 1) := by decide +kernel
theorem d_LA_law_845 : decode code 845 = .ok (.iadd, 1) := by decide +kernel
theorem d_LA_law_846 : decode code 846 = .ok (.iaload, 1) := by decide +kernel
theorem d_LA_law_847 : decode code 847 = .ok (.aload_n 3, 1) := by decide +kernel
theorem d_LA_law_848 : decode code 848 = .ok (.invokestatic 114, 3) := by decide +kernel
theorem d_LA_law_851 : decode code 851 = .ok (.istore 5, 2) := by decide +kernel
theorem d_LA_law_853 : decode code 853 = .ok (.aload_n 2, 1) := by decide +kernel
theorem d_LA_law_854 : decode code 854 = .ok (.aload_n 0, 1) := by decide +kernel
theorem d_LA_law_855 : decode code 855 = .ok (.iload 4, 2) := by decide +kernel
theorem d_LA_law_857 : decode code 857 = .ok (.iconst 1, 1) := by decide +kernel
theorem d_LA_law_858 : decode code 858 = .ok (.iadd, 1) := by decide +kernel
theorem d_LA_law_859 : decode code 859 = .ok (.iaload, 1) := by decide +kernel
theorem d_LA_law_860 : decode code 860 = .ok (.aload_n 0, 1) := by decide +kernel
theorem d_LA_law_861 : decode code 861 = .ok (.iload 4, 2) := by decide +kernel
theorem d_LA_law_863 : decode code 863 = .ok (.iconst 2, 1) := by decide +kernel
theorem d_LA_law_864 : decode code 864 = .ok (.iadd, 1) := by decide +kernel
theorem d_LA_law_865 : decode code 865 = .ok (.iaload, 1) := by decide +kernel
theorem d_LA_law_866 : decode code 866 = .ok (.invokevirtual 116, 3) := by decide +kernel
theorem d_LA_law_869 : decode code 869 = .ok (.istore 6, 2) := by decide +kernel
theorem d_LA_law_871 : decode code 871 = .ok (.aload_n 2, 1) := by decide +kernel
theorem d_LA_law_872 : decode code 872 = .ok (.invokevirtual 74, 3) := by decide +kernel
theorem d_LA_law_875 : decode code 875 = .ok (.iload 5, 2) := by decide +kernel
theorem d_LA_law_877 : decode code 877 = .ok (.if_icmp .eq 5, 3) := by decide +kernel
