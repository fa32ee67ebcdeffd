theorem d_Lw_law_630 : decode code 630 = .ok (.iconst 0, 1) := by decide +kernel
theorem d_Lw_law_631 : decode code 631 = .ok (.ireturn, 1) := by decide +kernel
theorem d_Lw_law_632 : decode code 632 = .ok (.aload_n 1, 1) := by decide +kernel
theorem d_Lw_law_633 : decode code 633 = .ok (.aload_n 0, 1) := by decide +kernel
theorem d_Lw_law_634 : decode code 634 = .ok (.iload 4, 2) := by decide +kernel
theorem d_Lw_law_636 : decode code 636 = .ok (.iconst 1, 1) := by decide +kernel
theorem d_Lw_law_637 : decode code 637 = .ok (.iadd, 1) := by decide +kernel
theorem d_Lw_law_638 : decode code 638 = .ok (.iaload, 1) := by decide +kernel
theorem d_Lw_law_639 : decode code 639 = .ok (.invokevirtual 89, 3) := by decide +kernel
theorem d_Lw_law_642 : decode code 642 = .ok (.aload_n 2, 1) := by decide +kernel
theorem d_Lw_law_643 : decode code 643 = .ok (.aload_n 0, 1) := by decide +kernel
theorem d_Lw_law_644 : decode code 644 = .ok (.iload 4, 2) := by decide +kernel
theorem d_Lw_law_646 : decode code 646 = .ok (.iconst 1, 1) := by decide +kernel
theorem d_Lw_law_647 : decode code 647 = .ok (.iadd, 1) := by decide +kernel
theorem d_Lw_law_648 : decode code 648 = .ok (.iaload, 1) := by decide +kernel
theorem d_Lw_law_649 : decode code 649 = .ok (.invokevirtual 92, 3) := by decide +kernel
theorem d_Lw_law_652 : decode code 652 = .ok (.if_icmp .eq 93, 3) := by decide +kernel
theorem d_Lw_law_655 : decode code 655 = .ok (.iconst 0, 1) := by decide +kernel
theorem d_Lw_law_656 : decode code 656 = .ok (.ireturn, 1) := by decide +kernel
theorem d_Lw_law_657 : decode code 657 = .ok (.aload_n 1, 1) := by decide +kernel
theorem d_Lw_law_658 : decode code 658 = .ok (.invokevirtual 93, 3) := by decide +kernel
theorem d_Lw_law_661 : decode code 661 = .ok (.aload_n 2, 1) := by decide +kernel
theorem d_Lw_law_662 : decode code 662 = .ok (.invokevirtual 97, 3) := by decide +kernel
theorem d_Lw_law_665 : decode code 665 = .ok (.lcmp, 1) := by decide +kernel
theorem d_Lw_law_666 : decode code 666 = .ok (.ifCond .eq 79, 3) := by decide +kernel
theorem d_Lw_law_669 : decode code 669 = .ok (.iconst 0, 1) := by decide +kernel
theorem d_Lw_law_670 : decode code 670 = .ok (.ireturn, 1) := by decide +kernel
theorem d_Lw_law_671 : decode code 671 = .ok (.aload_n 1, 1) := by decide +kernel
theorem d_Lw_law_672 : decode code 672 = .ok (.aload_n 0, 1) := by decide +kernel
theorem d_Lw_law_673 : decode code 673 = .ok (.iload 4, 2) := by decide +kernel
theorem d_Lw_law_675 : decode code 675 = .ok (.iconst 1, 1) := by decide +kernel
theorem d_Lw_law_676 : decode code 676 = .ok (.iadd, 1) := by decide +kernel
theorem d_Lw_law_677 : decode code 677 = .ok (.iaload, 1) := by decide +kernel
theorem d_Lw_law_678 : decode code 678 = .ok (.invokevirtual 98, 3) := by decide +kernel
theorem d_Lw_law_681 : decode code 681 = .ok (.aload_n 2, 1) := by decide +kernel
theorem d_Lw_law_682 : decode code 682 = .ok (.aload_n 0, 1) := by decide +kernel
theorem d_Lw_law_683 : decode code 683 = .ok (.iload 4, 2) := by decide +kernel
theorem d_Lw_law_685 : decode code 685 = .ok (.iconst 1, 1) := by decide +kernel
theorem d_Lw_law_686 : decode code 686 = .ok (.iadd, 1) := by decide +kernel
theorem d_Lw_law_687 : decode code 687 = .ok (.iaload, 1) := by decide +kernel
theorem d_Lw_law_688 : decode code 688 = .ok (.invokevirtual 101, 3) := by decide +kernel
theorem d_Lw_law_691 : decode code 691 = .ok (.if_icmp .eq 54, 3) := by decide +kernel
theorem d_Lw_law_694 : decode code 694 = .ok (.iconst 0, 1) := by decide +kernel
theorem d_Lw_law_695 : decode code 695 = .ok (.ireturn, 1) := by decide +kernel
theorem d_Lw_law_696 : decode code 696 = .ok (.aload_n 1, 1) := by decide +kernel
theorem d_Lw_law_697 : decode code 697 = .ok (.aload_n 0, 1) := by decide +kernel
theorem d_Lw_law_698 : decode code 698 = .ok (.iload 4, 2) := by decide +kernel
theorem d_Lw_law_700 : decode code 700 = .ok (.iconst 1, 1) := by decide +kernel
theorem d_Lw_law_701 : decode code 701 = .ok (.iadd, 1) := by decide +kernel
theorem d_Lw_law_702 : decode code 702 = .ok (.iaload, 1) := by decide +kernel
theorem d_Lw_law_703 : decode code 703 = .ok (.invokevirtual 102, 3) := by decide +kernel
theorem d_Lw_law_706 : decode code 706 = .ok (.aload_n 2, 1) := by decide +kernel
theorem d_Lw_law_707 : decode code 707 = .ok (.aload_n 0, 1) := by decide +kernel
theorem d_Lw_law_708 : decode code 708 = .ok (.iload 4, 2) := by decide +kernel
theorem d_Lw_law_710 : decode code 710 = .ok (.iconst 1, 1) := by decide +kernel
theorem d_Lw_law_711 : decode code 711 = .ok (.iadd, 1) := by decide +kernel
theorem d_Lw_law_712 : decode code 712 = .ok (.iaload, 1) := by decide +kernel
theorem d_Lw_law_713 : decode code 713 = .ok (.invokevirtual 105, 3) := by decide +kernel
theorem d_Lw_law_716 : decode code 716 = .ok (.if_icmp .eq 29, 3) := by decide +kernel
theorem d_Lw_law_719 : decode code 719 = .ok (.iconst 0, 1) := by decide +kernel
theorem d_Lw_law_720 : decode code 720 = .ok (.ireturn, 1) := by decide +kernel
theorem d_Lw_law_721 : decode code 721 = .ok (.aload_n 1, 1) := by decide +kernel
theorem d_Lw_law_722 : decode code 722 = .ok (.invokevirtual 106, 3) := by decide +kernel
theorem d_Lw_law_725 : decode code 725 = .ok (.aload_n 2, 1) := by decide +kernel
theorem d_Lw_law_726 : decode code 726 = .ok (.invokevirtual 109, 3) := by decide +kernel
theorem d_Lw_law_729 : decode code 729 = .ok (.if_icmp .eq 16, 3) := by decide +kernel
theorem d_Lw_law_732 : decode code 732 = .ok (.iconst 0, 1) := by decide +kernel
theorem d_Lw_law_733 : decode code 733 = .ok (.ireturn, 1) := by decide +kernel
theorem d_Lw_law_734 : decode code 734 = .ok (.aload_n 1, 1) := by decide +kernel
theorem d_Lw_law_735 : decode code 735 = .ok (.invokevirtual 110, 3) := by decide +kernel
theorem d_Lw_law_738 : decode code 738 = .ok (.aload_n 2, 1) := by decide +kernel
theorem d_Lw_law_739 : decode code 739 = .ok (.invokevirtual 113, 3) := by decide +kernel
theorem d_Lw_law_742 : decode code 742 = .ok (.goto 3, 3) := by decide +kernel
theorem d_Lw_law_745 : decode code 745 = .ok (.iinc 4 5, 3) := by decide +kernel
theorem d_Lw_law_748 : decode code 748 = .ok (.goto (-725), 3) := by decide +kernel
theorem d_Lw_law_751 : decode code 751 = .ok (.iconst 1, 1) := by decide +kernel
theorem d_Lw_law_752 : decode code 752 = .ok (.ireturn, 1) := by decide +kernel
