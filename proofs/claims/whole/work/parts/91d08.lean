/-! the law, decoded: by program (gen_law.py) -/
theorem dl_790 : decode code 790 = .ok (.aload_n 1, 1) := by decide +kernel
theorem dl_791 : decode code 791 = .ok (.invokevirtual 114, 3) := by decide +kernel
theorem dl_794 : decode code 794 = .ok (.aload_n 2, 1) := by decide +kernel
theorem dl_795 : decode code 795 = .ok (.invokevirtual 117, 3) := by decide +kernel
theorem dl_798 : decode code 798 = .ok (.if_icmp .eq 297, 3) := by decide +kernel
theorem dl_801 : decode code 801 = .ok (.iconst 0, 1) := by decide +kernel
theorem dl_802 : decode code 802 = .ok (.ireturn, 1) := by decide +kernel
theorem dl_803 : decode code 803 = .ok (.aload_n 1, 1) := by decide +kernel
theorem dl_804 : decode code 804 = .ok (.aload_n 0, 1) := by decide +kernel
theorem dl_805 : decode code 805 = .ok (.iload_n 3, 1) := by decide +kernel
theorem dl_806 : decode code 806 = .ok (.iconst 1, 1) := by decide +kernel
theorem dl_807 : decode code 807 = .ok (.iadd, 1) := by decide +kernel
theorem dl_808 : decode code 808 = .ok (.iaload, 1) := by decide +kernel
theorem dl_809 : decode code 809 = .ok (.aload_n 0, 1) := by decide +kernel
theorem dl_810 : decode code 810 = .ok (.iload_n 3, 1) := by decide +kernel
theorem dl_811 : decode code 811 = .ok (.iconst 2, 1) := by decide +kernel
theorem dl_812 : decode code 812 = .ok (.iadd, 1) := by decide +kernel
theorem dl_813 : decode code 813 = .ok (.iaload, 1) := by decide +kernel
theorem dl_814 : decode code 814 = .ok (.aload_n 0, 1) := by decide +kernel
theorem dl_815 : decode code 815 = .ok (.iload_n 3, 1) := by decide +kernel
theorem dl_816 : decode code 816 = .ok (.iconst 3, 1) := by decide +kernel
theorem dl_817 : decode code 817 = .ok (.iadd, 1) := by decide +kernel
theorem dl_818 : decode code 818 = .ok (.iaload, 1) := by decide +kernel
theorem dl_819 : decode code 819 = .ok (.invokevirtual 118, 3) := by decide +kernel
theorem dl_822 : decode code 822 = .ok (.aload_n 2, 1) := by decide +kernel
theorem dl_823 : decode code 823 = .ok (.aload_n 0, 1) := by decide +kernel
theorem dl_824 : decode code 824 = .ok (.iload_n 3, 1) := by decide +kernel
theorem dl_825 : decode code 825 = .ok (.iconst 1, 1) := by decide +kernel
theorem dl_826 : decode code 826 = .ok (.iadd, 1) := by decide +kernel
theorem dl_827 : decode code 827 = .ok (.iaload, 1) := by decide +kernel
theorem dl_828 : decode code 828 = .ok (.aload_n 0, 1) := by decide +kernel
theorem dl_829 : decode code 829 = .ok (.iload_n 3, 1) := by decide +kernel
theorem dl_830 : decode code 830 = .ok (.iconst 2, 1) := by decide +kernel
theorem dl_831 : decode code 831 = .ok (.iadd, 1) := by decide +kernel
theorem dl_832 : decode code 832 = .ok (.iaload, 1) := by decide +kernel
theorem dl_833 : decode code 833 = .ok (.aload_n 0, 1) := by decide +kernel
theorem dl_834 : decode code 834 = .ok (.iload_n 3, 1) := by decide +kernel
theorem dl_835 : decode code 835 = .ok (.iconst 3, 1) := by decide +kernel
theorem dl_836 : decode code 836 = .ok (.iadd, 1) := by decide +kernel
theorem dl_837 : decode code 837 = .ok (.iaload, 1) := by decide +kernel
theorem dl_838 : decode code 838 = .ok (.invokevirtual 121, 3) := by decide +kernel
theorem dl_841 : decode code 841 = .ok (.if_icmp .eq 254, 3) := by decide +kernel
theorem dl_844 : decode code 844 = .ok (.iconst 0, 1) := by decide +kernel
theorem dl_845 : decode code 845 = .ok (.ireturn, 1) := by decide +kernel
theorem dl_846 : decode code 846 = .ok (.aload_n 1, 1) := by decide +kernel
theorem dl_847 : decode code 847 = .ok (.aload_n 0, 1) := by decide +kernel
theorem dl_848 : decode code 848 = .ok (.iload_n 3, 1) := by decide +kernel
theorem dl_849 : decode code 849 = .ok (.iconst 1, 1) := by decide +kernel
theorem dl_850 : decode code 850 = .ok (.iadd, 1) := by decide +kernel
theorem dl_851 : decode code 851 = .ok (.iaload, 1) := by decide +kernel
theorem dl_852 : decode code 852 = .ok (.aload_n 0, 1) := by decide +kernel
theorem dl_853 : decode code 853 = .ok (.iload_n 3, 1) := by decide +kernel
theorem dl_854 : decode code 854 = .ok (.iconst 2, 1) := by decide +kernel
theorem dl_855 : decode code 855 = .ok (.iadd, 1) := by decide +kernel
theorem dl_856 : decode code 856 = .ok (.iaload, 1) := by decide +kernel
theorem dl_857 : decode code 857 = .ok (.aload_n 0, 1) := by decide +kernel
theorem dl_858 : decode code 858 = .ok (.iload_n 3, 1) := by decide +kernel
theorem dl_859 : decode code 859 = .ok (.iconst 3, 1) := by decide +kernel
theorem dl_860 : decode code 860 = .ok (.iadd, 1) := by decide +kernel
theorem dl_861 : decode code 861 = .ok (.iaload, 1) := by decide +kernel
