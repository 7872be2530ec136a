theorem dL_wires_679 : decode cL_wires 679 = .ok (.bipush 10, 2) := by decide +kernel
theorem dL_wires_681 : decode cL_wires 681 = .ok (.invokevirtual 29, 3) := by decide +kernel
theorem dL_wires_684 : decode cL_wires 684 = .ok (.ifCond .ge 5, 3) := by decide +kernel
theorem dL_wires_687 : decode cL_wires 687 = .ok (.iconst 0, 1) := by decide +kernel
theorem dL_wires_688 : decode cL_wires 688 = .ok (.ireturn, 1) := by decide +kernel
theorem dL_wires_689 : decode cL_wires 689 = .ok (.iinc 1 1, 3) := by decide +kernel
theorem dL_wires_692 : decode cL_wires 692 = .ok (.goto (-24), 3) := by decide +kernel
theorem dL_wires_695 : decode cL_wires 695 = .ok (.aload_n 0, 1) := by decide +kernel
theorem dL_wires_696 : decode cL_wires 696 = .ok (.iconst 5, 1) := by decide +kernel
theorem dL_wires_697 : decode cL_wires 697 = .ok (.invokevirtual 13, 3) := by decide +kernel
theorem dL_wires_700 : decode cL_wires 700 = .ok (.iconst 1, 1) := by decide +kernel
theorem dL_wires_701 : decode cL_wires 701 = .ok (.if_icmp .ne 177, 3) := by decide +kernel
theorem dL_wires_704 : decode cL_wires 704 = .ok (.aload_n 0, 1) := by decide +kernel
theorem dL_wires_705 : decode cL_wires 705 = .ok (.bipush 6, 2) := by decide +kernel
theorem dL_wires_707 : decode cL_wires 707 = .ok (.invokevirtual 13, 3) := by decide +kernel
theorem dL_wires_710 : decode cL_wires 710 = .ok (.iconst 1, 1) := by decide +kernel
theorem dL_wires_711 : decode cL_wires 711 = .ok (.if_icmp .ne 167, 3) := by decide +kernel
theorem dL_wires_714 : decode cL_wires 714 = .ok (.aload_n 0, 1) := by decide +kernel
theorem dL_wires_715 : decode cL_wires 715 = .ok (.iconst 1, 1) := by decide +kernel
theorem dL_wires_716 : decode cL_wires 716 = .ok (.invokevirtual 13, 3) := by decide +kernel
theorem dL_wires_719 : decode cL_wires 719 = .ok (.bipush 7, 2) := by decide +kernel
theorem dL_wires_721 : decode cL_wires 721 = .ok (.if_icmp .ne 157, 3) := by decide +kernel
theorem dL_wires_724 : decode cL_wires 724 = .ok (.aload_n 0, 1) := by decide +kernel
theorem dL_wires_725 : decode cL_wires 725 = .ok (.bipush 6, 2) := by decide +kernel
theorem dL_wires_727 : decode cL_wires 727 = .ok (.bipush 6, 2) := by decide +kernel
theorem dL_wires_729 : decode cL_wires 729 = .ok (.invokevirtual 19, 3) := by decide +kernel
theorem dL_wires_732 : decode cL_wires 732 = .ok (.bipush 6, 2) := by decide +kernel
theorem dL_wires_734 : decode cL_wires 734 = .ok (.if_icmp .ne 144, 3) := by decide +kernel
theorem dL_wires_737 : decode cL_wires 737 = .ok (.aload_n 0, 1) := by decide +kernel
theorem dL_wires_738 : decode cL_wires 738 = .ok (.bipush 10, 2) := by decide +kernel
theorem dL_wires_740 : decode cL_wires 740 = .ok (.invokevirtual 26, 3) := by decide +kernel
theorem dL_wires_743 : decode cL_wires 743 = .ok (.ifCond .ne 135, 3) := by decide +kernel
theorem dL_wires_746 : decode cL_wires 746 = .ok (.aload_n 0, 1) := by decide +kernel
theorem dL_wires_747 : decode cL_wires 747 = .ok (.bipush 8, 2) := by decide +kernel
theorem dL_wires_749 : decode cL_wires 749 = .ok (.bipush 12, 2) := by decide +kernel
theorem dL_wires_751 : decode cL_wires 751 = .ok (.bipush 10, 2) := by decide +kernel
theorem dL_wires_753 : decode cL_wires 753 = .ok (.invokevirtual 29, 3) := by decide +kernel
theorem dL_wires_756 : decode cL_wires 756 = .ok (.bipush (-6), 2) := by decide +kernel
theorem dL_wires_758 : decode cL_wires 758 = .ok (.if_icmp .ne 120, 3) := by decide +kernel
theorem dL_wires_761 : decode cL_wires 761 = .ok (.aload_n 0, 1) := by decide +kernel
theorem dL_wires_762 : decode cL_wires 762 = .ok (.bipush 6, 2) := by decide +kernel
theorem dL_wires_764 : decode cL_wires 764 = .ok (.bipush 12, 2) := by decide +kernel
theorem dL_wires_766 : decode cL_wires 766 = .ok (.bipush 10, 2) := by decide +kernel
theorem dL_wires_768 : decode cL_wires 768 = .ok (.invokevirtual 29, 3) := by decide +kernel
theorem dL_wires_771 : decode cL_wires 771 = .ok (.bipush (-4), 2) := by decide +kernel
theorem dL_wires_773 : decode cL_wires 773 = .ok (.if_icmp .ne 105, 3) := by decide +kernel
theorem dL_wires_776 : decode cL_wires 776 = .ok (.aload_n 0, 1) := by decide +kernel
theorem dL_wires_777 : decode cL_wires 777 = .ok (.invokevirtual 85, 3) := by decide +kernel
theorem dL_wires_780 : decode cL_wires 780 = .ok (.iconst 1, 1) := by decide +kernel
theorem dL_wires_781 : decode cL_wires 781 = .ok (.if_icmp .ne 97, 3) := by decide +kernel
theorem dL_wires_784 : decode cL_wires 784 = .ok (.aload_n 0, 1) := by decide +kernel
theorem dL_wires_785 : decode cL_wires 785 = .ok (.invokevirtual 85, 3) := by decide +kernel
theorem dL_wires_788 : decode cL_wires 788 = .ok (.bipush (-5), 2) := by decide +kernel
theorem dL_wires_790 : decode cL_wires 790 = .ok (.if_icmp .ne 88, 3) := by decide +kernel
theorem dL_wires_793 : decode cL_wires 793 = .ok (.aload_n 0, 1) := by decide +kernel
theorem dL_wires_794 : decode cL_wires 794 = .ok (.bipush 10, 2) := by decide +kernel
theorem dL_wires_796 : decode cL_wires 796 = .ok (.invokevirtual 26, 3) := by decide +kernel
theorem dL_wires_799 : decode cL_wires 799 = .ok (.bipush 7, 2) := by decide +kernel
theorem dL_wires_801 : decode cL_wires 801 = .ok (.if_icmp .ne 77, 3) := by decide +kernel
theorem dL_wires_804 : decode cL_wires 804 = .ok (.aload_n 0, 1) := by decide +kernel
theorem dL_wires_805 : decode cL_wires 805 = .ok (.bipush 6, 2) := by decide +kernel
theorem dL_wires_807 : decode cL_wires 807 = .ok (.invokevirtual 35, 3) := by decide +kernel
theorem dL_wires_810 : decode cL_wires 810 = .ok (.ifCond .lt 68, 3) := by decide +kernel
theorem dL_wires_813 : decode cL_wires 813 = .ok (.aload_n 0, 1) := by decide +kernel
theorem dL_wires_814 : decode cL_wires 814 = .ok (.bipush 12, 2) := by decide +kernel
theorem dL_wires_816 : decode cL_wires 816 = .ok (.invokevirtual 13, 3) := by decide +kernel
theorem dL_wires_819 : decode cL_wires 819 = .ok (.iconst 4, 1) := by decide +kernel
theorem dL_wires_820 : decode cL_wires 820 = .ok (.if_icmp .ne 58, 3) := by decide +kernel
theorem dL_wires_823 : decode cL_wires 823 = .ok (.aload_n 0, 1) := by decide +kernel
theorem dL_wires_824 : decode cL_wires 824 = .ok (.invokevirtual 75, 3) := by decide +kernel
