/-! the law, decoded: by program (gen_law.py) -/
theorem dl_708 : decode code 708 = .ok (.aload_n 0, 1) := by decide +kernel
theorem dl_709 : decode code 709 = .ok (.iload_n 3, 1) := by decide +kernel
theorem dl_710 : decode code 710 = .ok (.iconst 1, 1) := by decide +kernel
theorem dl_711 : decode code 711 = .ok (.iadd, 1) := by decide +kernel
theorem dl_712 : decode code 712 = .ok (.iaload, 1) := by decide +kernel
theorem dl_713 : decode code 713 = .ok (.invokevirtual 101, 3) := by decide +kernel
theorem dl_716 : decode code 716 = .ok (.if_icmp .eq 379, 3) := by decide +kernel
theorem dl_719 : decode code 719 = .ok (.iconst 0, 1) := by decide +kernel
theorem dl_720 : decode code 720 = .ok (.ireturn, 1) := by decide +kernel
theorem dl_721 : decode code 721 = .ok (.aload_n 1, 1) := by decide +kernel
theorem dl_722 : decode code 722 = .ok (.aload_n 0, 1) := by decide +kernel
theorem dl_723 : decode code 723 = .ok (.iload_n 3, 1) := by decide +kernel
theorem dl_724 : decode code 724 = .ok (.iconst 1, 1) := by decide +kernel
theorem dl_725 : decode code 725 = .ok (.iadd, 1) := by decide +kernel
theorem dl_726 : decode code 726 = .ok (.iaload, 1) := by decide +kernel
theorem dl_727 : decode code 727 = .ok (.aload_n 0, 1) := by decide +kernel
theorem dl_728 : decode code 728 = .ok (.iload_n 3, 1) := by decide +kernel
theorem dl_729 : decode code 729 = .ok (.iconst 2, 1) := by decide +kernel
theorem dl_730 : decode code 730 = .ok (.iadd, 1) := by decide +kernel
theorem dl_731 : decode code 731 = .ok (.iaload, 1) := by decide +kernel
theorem dl_732 : decode code 732 = .ok (.aload_n 0, 1) := by decide +kernel
theorem dl_733 : decode code 733 = .ok (.iload_n 3, 1) := by decide +kernel
theorem dl_734 : decode code 734 = .ok (.iconst 3, 1) := by decide +kernel
theorem dl_735 : decode code 735 = .ok (.iadd, 1) := by decide +kernel
theorem dl_736 : decode code 736 = .ok (.iaload, 1) := by decide +kernel
theorem dl_737 : decode code 737 = .ok (.invokevirtual 102, 3) := by decide +kernel
theorem dl_740 : decode code 740 = .ok (.aload_n 2, 1) := by decide +kernel
theorem dl_741 : decode code 741 = .ok (.aload_n 0, 1) := by decide +kernel
theorem dl_742 : decode code 742 = .ok (.iload_n 3, 1) := by decide +kernel
theorem dl_743 : decode code 743 = .ok (.iconst 1, 1) := by decide +kernel
theorem dl_744 : decode code 744 = .ok (.iadd, 1) := by decide +kernel
theorem dl_745 : decode code 745 = .ok (.iaload, 1) := by decide +kernel
theorem dl_746 : decode code 746 = .ok (.aload_n 0, 1) := by decide +kernel
theorem dl_747 : decode code 747 = .ok (.iload_n 3, 1) := by decide +kernel
theorem dl_748 : decode code 748 = .ok (.iconst 2, 1) := by decide +kernel
theorem dl_749 : decode code 749 = .ok (.iadd, 1) := by decide +kernel
theorem dl_750 : decode code 750 = .ok (.iaload, 1) := by decide +kernel
theorem dl_751 : decode code 751 = .ok (.aload_n 0, 1) := by decide +kernel
theorem dl_752 : decode code 752 = .ok (.iload_n 3, 1) := by decide +kernel
theorem dl_753 : decode code 753 = .ok (.iconst 3, 1) := by decide +kernel
theorem dl_754 : decode code 754 = .ok (.iadd, 1) := by decide +kernel
theorem dl_755 : decode code 755 = .ok (.iaload, 1) := by decide +kernel
theorem dl_756 : decode code 756 = .ok (.invokevirtual 105, 3) := by decide +kernel
theorem dl_759 : decode code 759 = .ok (.if_icmp .eq 336, 3) := by decide +kernel
theorem dl_762 : decode code 762 = .ok (.iconst 0, 1) := by decide +kernel
theorem dl_763 : decode code 763 = .ok (.ireturn, 1) := by decide +kernel
theorem dl_764 : decode code 764 = .ok (.aload_n 1, 1) := by decide +kernel
theorem dl_765 : decode code 765 = .ok (.invokevirtual 106, 3) := by decide +kernel
theorem dl_768 : decode code 768 = .ok (.aload_n 2, 1) := by decide +kernel
theorem dl_769 : decode code 769 = .ok (.invokevirtual 109, 3) := by decide +kernel
theorem dl_772 : decode code 772 = .ok (.if_icmp .eq 323, 3) := by decide +kernel
theorem dl_775 : decode code 775 = .ok (.iconst 0, 1) := by decide +kernel
theorem dl_776 : decode code 776 = .ok (.ireturn, 1) := by decide +kernel
theorem dl_777 : decode code 777 = .ok (.aload_n 1, 1) := by decide +kernel
theorem dl_778 : decode code 778 = .ok (.invokevirtual 110, 3) := by decide +kernel
theorem dl_781 : decode code 781 = .ok (.aload_n 2, 1) := by decide +kernel
theorem dl_782 : decode code 782 = .ok (.invokevirtual 113, 3) := by decide +kernel
theorem dl_785 : decode code 785 = .ok (.if_icmp .eq 310, 3) := by decide +kernel
theorem dl_788 : decode code 788 = .ok (.iconst 0, 1) := by decide +kernel
theorem dl_789 : decode code 789 = .ok (.ireturn, 1) := by decide +kernel
