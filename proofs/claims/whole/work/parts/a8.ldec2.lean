/-! ===== the law: what its bytes say, 2 ===== -/
theorem dL_580 : decode code 580 = .ok (.if_icmp .eq 995, 3) := by decide +kernel
theorem dL_585 : decode code 585 = .ok (.aload_n 1, 1) := by decide +kernel
theorem dA_586 : AD 586 1 := by unfold AD; decide +kernel
theorem dL_591 : decode code 591 = .ok (.i2l, 1) := by decide +kernel
theorem dL_592 : decode code 592 = .ok (.bipush 32, 2) := by decide +kernel
theorem dL_594 : decode code 594 = .ok (.lshl, 1) := by decide +kernel
theorem dA_595 : AD 595 2 := by unfold AD; decide +kernel
theorem dL_600 : decode code 600 = .ok (.i2l, 1) := by decide +kernel
theorem dL_601 : decode code 601 = .ok (.ldc2_w 60, 3) := by decide +kernel
theorem dL_604 : decode code 604 = .ok (.land, 1) := by decide +kernel
theorem dL_605 : decode code 605 = .ok (.lor, 1) := by decide +kernel
theorem dA_606 : AD 606 3 := by unfold AD; decide +kernel
theorem dL_611 : decode code 611 = .ok (.invokevirtual 62, 3) := by decide +kernel
theorem dL_614 : decode code 614 = .ok (.aload_n 2, 1) := by decide +kernel
theorem dA_615 : AD 615 1 := by unfold AD; decide +kernel
theorem dL_620 : decode code 620 = .ok (.i2l, 1) := by decide +kernel
theorem dL_621 : decode code 621 = .ok (.bipush 32, 2) := by decide +kernel
theorem dL_623 : decode code 623 = .ok (.lshl, 1) := by decide +kernel
theorem dA_624 : AD 624 2 := by unfold AD; decide +kernel
theorem dL_629 : decode code 629 = .ok (.i2l, 1) := by decide +kernel
theorem dL_630 : decode code 630 = .ok (.ldc2_w 60, 3) := by decide +kernel
theorem dL_633 : decode code 633 = .ok (.land, 1) := by decide +kernel
theorem dL_634 : decode code 634 = .ok (.lor, 1) := by decide +kernel
theorem dA_635 : AD 635 3 := by unfold AD; decide +kernel
theorem dL_640 : decode code 640 = .ok (.invokevirtual 66, 3) := by decide +kernel
theorem dL_643 : decode code 643 = .ok (.if_icmp .eq 932, 3) := by decide +kernel
theorem dL_648 : decode code 648 = .ok (.aload_n 1, 1) := by decide +kernel
theorem dA_649 : AD 649 1 := by unfold AD; decide +kernel
theorem dL_654 : decode code 654 = .ok (.invokevirtual 67, 3) := by decide +kernel
theorem dL_657 : decode code 657 = .ok (.aload_n 2, 1) := by decide +kernel
theorem dA_658 : AD 658 1 := by unfold AD; decide +kernel
theorem dL_663 : decode code 663 = .ok (.invokevirtual 70, 3) := by decide +kernel
theorem dL_666 : decode code 666 = .ok (.if_icmp .eq 909, 3) := by decide +kernel
theorem dL_671 : decode code 671 = .ok (.aload_n 1, 1) := by decide +kernel
theorem dA_672 : AD 672 1 := by unfold AD; decide +kernel
theorem dA_677 : AD 677 2 := by unfold AD; decide +kernel
theorem dA_682 : AD 682 3 := by unfold AD; decide +kernel
theorem dA_687 : AD 687 4 := by unfold AD; decide +kernel
theorem dA_692 : AD 692 5 := by unfold AD; decide +kernel
theorem dL_697 : decode code 697 = .ok (.invokevirtual 71, 3) := by decide +kernel
theorem dL_700 : decode code 700 = .ok (.aload_n 2, 1) := by decide +kernel
theorem dA_701 : AD 701 1 := by unfold AD; decide +kernel
theorem dA_706 : AD 706 2 := by unfold AD; decide +kernel
theorem dA_711 : AD 711 3 := by unfold AD; decide +kernel
theorem dA_716 : AD 716 4 := by unfold AD; decide +kernel
theorem dA_721 : AD 721 5 := by unfold AD; decide +kernel
theorem dL_726 : decode code 726 = .ok (.invokevirtual 75, 3) := by decide +kernel
theorem dL_729 : decode code 729 = .ok (.if_icmp .eq 846, 3) := by decide +kernel
theorem dL_734 : decode code 734 = .ok (.aload_n 1, 1) := by decide +kernel
theorem dA_735 : AD 735 1 := by unfold AD; decide +kernel
theorem dA_740 : AD 740 2 := by unfold AD; decide +kernel
theorem dL_745 : decode code 745 = .ok (.invokevirtual 76, 3) := by decide +kernel
theorem dL_748 : decode code 748 = .ok (.aload_n 2, 1) := by decide +kernel
theorem dA_749 : AD 749 1 := by unfold AD; decide +kernel
theorem dA_754 : AD 754 2 := by unfold AD; decide +kernel
theorem dL_759 : decode code 759 = .ok (.invokevirtual 79, 3) := by decide +kernel
theorem dL_762 : decode code 762 = .ok (.if_icmp .eq 813, 3) := by decide +kernel
theorem dL_767 : decode code 767 = .ok (.aload_n 1, 1) := by decide +kernel
theorem dA_768 : AD 768 1 := by unfold AD; decide +kernel
theorem dA_773 : AD 773 2 := by unfold AD; decide +kernel
theorem dL_778 : decode code 778 = .ok (.invokevirtual 80, 3) := by decide +kernel
theorem dL_781 : decode code 781 = .ok (.aload_n 2, 1) := by decide +kernel
theorem dA_782 : AD 782 1 := by unfold AD; decide +kernel
theorem dA_787 : AD 787 2 := by unfold AD; decide +kernel
theorem dL_792 : decode code 792 = .ok (.invokevirtual 83, 3) := by decide +kernel
theorem dL_795 : decode code 795 = .ok (.if_icmp .eq 780, 3) := by decide +kernel
theorem dL_800 : decode code 800 = .ok (.aload_n 1, 1) := by decide +kernel
theorem dA_801 : AD 801 1 := by unfold AD; decide +kernel
theorem dL_806 : decode code 806 = .ok (.invokevirtual 84, 3) := by decide +kernel
theorem dL_809 : decode code 809 = .ok (.aload_n 2, 1) := by decide +kernel
theorem dA_810 : AD 810 1 := by unfold AD; decide +kernel
theorem dL_815 : decode code 815 = .ok (.invokevirtual 87, 3) := by decide +kernel
theorem dL_818 : decode code 818 = .ok (.if_icmp .eq 757, 3) := by decide +kernel
theorem dL_823 : decode code 823 = .ok (.aload_n 1, 1) := by decide +kernel
theorem dA_824 : AD 824 1 := by unfold AD; decide +kernel
theorem dA_829 : AD 829 2 := by unfold AD; decide +kernel
theorem dA_834 : AD 834 3 := by unfold AD; decide +kernel
theorem dL_839 : decode code 839 = .ok (.invokevirtual 88, 3) := by decide +kernel
theorem dL_842 : decode code 842 = .ok (.aload_n 2, 1) := by decide +kernel
theorem dA_843 : AD 843 1 := by unfold AD; decide +kernel
theorem dA_848 : AD 848 2 := by unfold AD; decide +kernel
theorem dA_853 : AD 853 3 := by unfold AD; decide +kernel
theorem dL_858 : decode code 858 = .ok (.invokevirtual 91, 3) := by decide +kernel
theorem dL_861 : decode code 861 = .ok (.if_icmp .eq 714, 3) := by decide +kernel
theorem dL_866 : decode code 866 = .ok (.aload_n 1, 1) := by decide +kernel
theorem dA_867 : AD 867 1 := by unfold AD; decide +kernel
theorem dA_872 : AD 872 2 := by unfold AD; decide +kernel
theorem dA_877 : AD 877 3 := by unfold AD; decide +kernel
theorem dL_882 : decode code 882 = .ok (.invokevirtual 92, 3) := by decide +kernel
theorem dL_885 : decode code 885 = .ok (.aload_n 2, 1) := by decide +kernel
theorem dA_886 : AD 886 1 := by unfold AD; decide +kernel
theorem dA_891 : AD 891 2 := by unfold AD; decide +kernel
theorem dA_896 : AD 896 3 := by unfold AD; decide +kernel
theorem dL_901 : decode code 901 = .ok (.invokevirtual 95, 3) := by decide +kernel
theorem dL_904 : decode code 904 = .ok (.if_icmp .eq 671, 3) := by decide +kernel
theorem dL_909 : decode code 909 = .ok (.aload_n 1, 1) := by decide +kernel
theorem dA_910 : AD 910 1 := by unfold AD; decide +kernel
theorem dL_915 : decode code 915 = .ok (.invokevirtual 96, 3) := by decide +kernel
theorem dL_918 : decode code 918 = .ok (.aload_n 2, 1) := by decide +kernel
theorem dA_919 : AD 919 1 := by unfold AD; decide +kernel

