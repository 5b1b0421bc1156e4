theorem dL_law_547 : decode cL_law 547 = .ok (.if_icmp .ne 98, 3) := by decide +kernel
theorem dL_law_550 : decode cL_law 550 = .ok (.aload_n 1, 1) := by decide +kernel
theorem dL_law_551 : decode cL_law 551 = .ok (.iload 14, 2) := by decide +kernel
theorem dL_law_553 : decode cL_law 553 = .ok (.invokevirtual 171, 3) := by decide +kernel
theorem dL_law_556 : decode cL_law 556 = .ok (.aload_n 1, 1) := by decide +kernel
theorem dL_law_557 : decode cL_law 557 = .ok (.iload 14, 2) := by decide +kernel
theorem dL_law_559 : decode cL_law 559 = .ok (.invokevirtual 165, 3) := by decide +kernel
theorem dL_law_562 : decode cL_law 562 = .ok (.aload_n 1, 1) := by decide +kernel
theorem dL_law_563 : decode cL_law 563 = .ok (.invokevirtual 134, 3) := by decide +kernel
theorem dL_law_566 : decode cL_law 566 = .ok (.isub, 1) := by decide +kernel
theorem dL_law_567 : decode cL_law 567 = .ok (.if_icmp .ne 78, 3) := by decide +kernel
theorem dL_law_570 : decode cL_law 570 = .ok (.aload_n 1, 1) := by decide +kernel
theorem dL_law_571 : decode cL_law 571 = .ok (.iload 13, 2) := by decide +kernel
theorem dL_law_573 : decode cL_law 573 = .ok (.invokevirtual 171, 3) := by decide +kernel
theorem dL_law_576 : decode cL_law 576 = .ok (.invokestatic 174, 3) := by decide +kernel
theorem dL_law_579 : decode cL_law 579 = .ok (.aload_n 1, 1) := by decide +kernel
theorem dL_law_580 : decode cL_law 580 = .ok (.iload 14, 2) := by decide +kernel
theorem dL_law_582 : decode cL_law 582 = .ok (.invokevirtual 171, 3) := by decide +kernel
theorem dL_law_585 : decode cL_law 585 = .ok (.invokestatic 174, 3) := by decide +kernel
theorem dL_law_588 : decode cL_law 588 = .ok (.if_icmp .gt 57, 3) := by decide +kernel
theorem dL_law_591 : decode cL_law 591 = .ok (.iload 15, 2) := by decide +kernel
theorem dL_law_593 : decode cL_law 593 = .ok (.ifCond .lt 36, 3) := by decide +kernel
theorem dL_law_596 : decode cL_law 596 = .ok (.iload 15, 2) := by decide +kernel
theorem dL_law_598 : decode cL_law 598 = .ok (.iload 7, 2) := by decide +kernel
theorem dL_law_600 : decode cL_law 600 = .ok (.if_icmp .lt 45, 3) := by decide +kernel
theorem dL_law_603 : decode cL_law 603 = .ok (.aload_n 1, 1) := by decide +kernel
theorem dL_law_604 : decode cL_law 604 = .ok (.iload 15, 2) := by decide +kernel
theorem dL_law_606 : decode cL_law 606 = .ok (.invokevirtual 113, 3) := by decide +kernel
theorem dL_law_609 : decode cL_law 609 = .ok (.ifCond .ne 36, 3) := by decide +kernel
theorem dL_law_612 : decode cL_law 612 = .ok (.iload 15, 2) := by decide +kernel
theorem dL_law_614 : decode cL_law 614 = .ok (.iload 16, 2) := by decide +kernel
theorem dL_law_616 : decode cL_law 616 = .ok (.irem, 1) := by decide +kernel
theorem dL_law_617 : decode cL_law 617 = .ok (.aload_n 2, 1) := by decide +kernel
theorem dL_law_618 : decode cL_law 618 = .ok (.getfield 53, 3) := by decide +kernel
theorem dL_law_621 : decode cL_law 621 = .ok (.iload 14, 2) := by decide +kernel
theorem dL_law_623 : decode cL_law 623 = .ok (.aaload, 1) := by decide +kernel
theorem dL_law_624 : decode cL_law 624 = .ok (.iconst 1, 1) := by decide +kernel
theorem dL_law_625 : decode cL_law 625 = .ok (.iaload, 1) := by decide +kernel
theorem dL_law_626 : decode cL_law 626 = .ok (.if_icmp .ne 19, 3) := by decide +kernel
theorem dL_law_629 : decode cL_law 629 = .ok (.aload_n 1, 1) := by decide +kernel
theorem dL_law_630 : decode cL_law 630 = .ok (.iload 14, 2) := by decide +kernel
theorem dL_law_632 : decode cL_law 632 = .ok (.invokevirtual 168, 3) := by decide +kernel
theorem dL_law_635 : decode cL_law 635 = .ok (.iload 7, 2) := by decide +kernel
theorem dL_law_637 : decode cL_law 637 = .ok (.iload 16, 2) := by decide +kernel
theorem dL_law_639 : decode cL_law 639 = .ok (.idiv, 1) := by decide +kernel
theorem dL_law_640 : decode cL_law 640 = .ok (.iconst 1, 1) := by decide +kernel
theorem dL_law_641 : decode cL_law 641 = .ok (.iadd, 1) := by decide +kernel
theorem dL_law_642 : decode cL_law 642 = .ok (.if_icmp .le 5, 3) := by decide +kernel
theorem dL_law_645 : decode cL_law 645 = .ok (.iconst 0, 1) := by decide +kernel
theorem dL_law_646 : decode cL_law 646 = .ok (.ireturn, 1) := by decide +kernel
theorem dL_law_647 : decode cL_law 647 = .ok (.iinc 14 1, 3) := by decide +kernel
theorem dL_law_650 : decode cL_law 650 = .ok (.goto (-146), 3) := by decide +kernel
theorem dL_law_653 : decode cL_law 653 = .ok (.aload_n 1, 1) := by decide +kernel
theorem dL_law_654 : decode cL_law 654 = .ok (.invokevirtual 177, 3) := by decide +kernel
theorem dL_law_657 : decode cL_law 657 = .ok (.istore 14, 2) := by decide +kernel
theorem dL_law_659 : decode cL_law 659 = .ok (.aload_n 1, 1) := by decide +kernel
theorem dL_law_660 : decode cL_law 660 = .ok (.invokevirtual 180, 3) := by decide +kernel
theorem dL_law_663 : decode cL_law 663 = .ok (.istore 15, 2) := by decide +kernel
theorem dL_law_665 : decode cL_law 665 = .ok (.aload_n 1, 1) := by decide +kernel
theorem dL_law_666 : decode cL_law 666 = .ok (.invokevirtual 183, 3) := by decide +kernel
theorem dL_law_669 : decode cL_law 669 = .ok (.istore 16, 2) := by decide +kernel
theorem dL_law_671 : decode cL_law 671 = .ok (.iload 12, 2) := by decide +kernel
theorem dL_law_673 : decode cL_law 673 = .ok (.ifCond .ge 7, 3) := by decide +kernel
theorem dL_law_676 : decode cL_law 676 = .ok (.iconst 1, 1) := by decide +kernel
theorem dL_law_677 : decode cL_law 677 = .ok (.goto 4, 3) := by decide +kernel
theorem dL_law_680 : decode cL_law 680 = .ok (.iconst 0, 1) := by decide +kernel
theorem dL_law_681 : decode cL_law 681 = .ok (.aload_n 1, 1) := by decide +kernel
theorem dL_law_682 : decode cL_law 682 = .ok (.invokevirtual 117, 3) := by decide +kernel
theorem dL_law_685 : decode cL_law 685 = .ok (.ifCond .ne 7, 3) := by decide +kernel
theorem dL_law_688 : decode cL_law 688 = .ok (.iconst 1, 1) := by decide +kernel
theorem dL_law_689 : decode cL_law 689 = .ok (.goto 4, 3) := by decide +kernel
theorem dL_law_692 : decode cL_law 692 = .ok (.iconst 0, 1) := by decide +kernel
theorem dL_law_693 : decode cL_law 693 = .ok (.if_icmp .ne 127, 3) := by decide +kernel
theorem dL_law_696 : decode cL_law 696 = .ok (.aload_n 1, 1) := by decide +kernel
theorem dL_law_697 : decode cL_law 697 = .ok (.invokevirtual 186, 3) := by decide +kernel
theorem dL_law_700 : decode cL_law 700 = .ok (.aload_n 2, 1) := by decide +kernel
theorem dL_law_701 : decode cL_law 701 = .ok (.getfield 59, 3) := by decide +kernel
theorem dL_law_704 : decode cL_law 704 = .ok (.if_icmp .gt 116, 3) := by decide +kernel
theorem dL_law_707 : decode cL_law 707 = .ok (.aload_n 1, 1) := by decide +kernel
theorem dL_law_708 : decode cL_law 708 = .ok (.invokevirtual 186, 3) := by decide +kernel
theorem dL_law_711 : decode cL_law 711 = .ok (.ifCond .lt 109, 3) := by decide +kernel
theorem dL_law_714 : decode cL_law 714 = .ok (.iload 15, 2) := by decide +kernel
theorem dL_law_716 : decode cL_law 716 = .ok (.aload_n 1, 1) := by decide +kernel
theorem dL_law_717 : decode cL_law 717 = .ok (.invokevirtual 188, 3) := by decide +kernel
theorem dL_law_720 : decode cL_law 720 = .ok (.if_icmp .lt 100, 3) := by decide +kernel
theorem dL_law_723 : decode cL_law 723 = .ok (.iload 14, 2) := by decide +kernel
theorem dL_law_725 : decode cL_law 725 = .ok (.ifCond .ge 7, 3) := by decide +kernel
theorem dL_law_728 : decode cL_law 728 = .ok (.iconst 1, 1) := by decide +kernel
theorem dL_law_729 : decode cL_law 729 = .ok (.goto 4, 3) := by decide +kernel
theorem dL_law_732 : decode cL_law 732 = .ok (.iconst 0, 1) := by decide +kernel
theorem dL_law_733 : decode cL_law 733 = .ok (.iload 15, 2) := by decide +kernel
theorem dL_law_735 : decode cL_law 735 = .ok (.aload_n 1, 1) := by decide +kernel
theorem dL_law_736 : decode cL_law 736 = .ok (.invokevirtual 188, 3) := by decide +kernel
theorem dL_law_739 : decode cL_law 739 = .ok (.if_icmp .ne 7, 3) := by decide +kernel
theorem dL_law_742 : decode cL_law 742 = .ok (.iconst 1, 1) := by decide +kernel
theorem dL_law_743 : decode cL_law 743 = .ok (.goto 4, 3) := by decide +kernel
theorem dL_law_746 : decode cL_law 746 = .ok (.iconst 0, 1) := by decide +kernel
theorem dL_law_747 : decode cL_law 747 = .ok (.if_icmp .ne 73, 3) := by decide +kernel
theorem dL_law_750 : decode cL_law 750 = .ok (.iload 14, 2) := by decide +kernel
theorem dL_law_752 : decode cL_law 752 = .ok (.ifCond .lt 19, 3) := by decide +kernel
theorem dL_law_755 : decode cL_law 755 = .ok (.iload 14, 2) := by decide +kernel
theorem dL_law_757 : decode cL_law 757 = .ok (.iload 7, 2) := by decide +kernel
theorem dL_law_759 : decode cL_law 759 = .ok (.if_icmp .lt 61, 3) := by decide +kernel
theorem dL_law_762 : decode cL_law 762 = .ok (.aload_n 1, 1) := by decide +kernel
theorem dL_law_763 : decode cL_law 763 = .ok (.iload 14, 2) := by decide +kernel
theorem dL_law_765 : decode cL_law 765 = .ok (.invokevirtual 113, 3) := by decide +kernel
theorem dL_law_768 : decode cL_law 768 = .ok (.ifCond .ne 52, 3) := by decide +kernel
theorem dL_law_771 : decode cL_law 771 = .ok (.iload 16, 2) := by decide +kernel
theorem dL_law_773 : decode cL_law 773 = .ok (.ifCond .lt 47, 3) := by decide +kernel
theorem dL_law_776 : decode cL_law 776 = .ok (.iload 16, 2) := by decide +kernel
theorem dL_law_778 : decode cL_law 778 = .ok (.bipush 9, 2) := by decide +kernel
theorem dL_law_780 : decode cL_law 780 = .ok (.if_icmp .gt 40, 3) := by decide +kernel
theorem dL_law_783 : decode cL_law 783 = .ok (.aload_n 2, 1) := by decide +kernel
theorem dL_law_784 : decode cL_law 784 = .ok (.getfield 63, 3) := by decide +kernel
theorem dL_law_787 : decode cL_law 787 = .ok (.iload 16, 2) := by decide +kernel
theorem dL_law_789 : decode cL_law 789 = .ok (.if_icmp .gt 7, 3) := by decide +kernel
theorem dL_law_792 : decode cL_law 792 = .ok (.iconst 1, 1) := by decide +kernel
theorem dL_law_793 : decode cL_law 793 = .ok (.goto 4, 3) := by decide +kernel
theorem dL_law_796 : decode cL_law 796 = .ok (.iconst 0, 1) := by decide +kernel
theorem dL_law_797 : decode cL_law 797 = .ok (.iload 14, 2) := by decide +kernel
theorem dL_law_799 : decode cL_law 799 = .ok (.ifCond .ge 7, 3) := by decide +kernel
theorem dL_law_802 : decode cL_law 802 = .ok (.iconst 1, 1) := by decide +kernel
theorem dL_law_803 : decode cL_law 803 = .ok (.goto 4, 3) := by decide +kernel
theorem dL_law_806 : decode cL_law 806 = .ok (.iconst 0, 1) := by decide +kernel
theorem dL_law_807 : decode cL_law 807 = .ok (.if_icmp .ne 13, 3) := by decide +kernel
theorem dL_law_810 : decode cL_law 810 = .ok (.aload_n 1, 1) := by decide +kernel
theorem dL_law_811 : decode cL_law 811 = .ok (.invokevirtual 107, 3) := by decide +kernel
theorem dL_law_814 : decode cL_law 814 = .ok (.lload 5, 2) := by decide +kernel
theorem dL_law_816 : decode cL_law 816 = .ok (.lcmp, 1) := by decide +kernel
theorem dL_law_817 : decode cL_law 817 = .ok (.ifCond .eq 5, 3) := by decide +kernel
theorem dL_law_820 : decode cL_law 820 = .ok (.iconst 0, 1) := by decide +kernel
theorem dL_law_821 : decode cL_law 821 = .ok (.ireturn, 1) := by decide +kernel
theorem dL_law_822 : decode cL_law 822 = .ok (.aload_n 1, 1) := by decide +kernel
theorem dL_law_823 : decode cL_law 823 = .ok (.invokevirtual 188, 3) := by decide +kernel
theorem dL_law_826 : decode cL_law 826 = .ok (.istore 17, 2) := by decide +kernel
theorem dL_law_828 : decode cL_law 828 = .ok (.aload_n 1, 1) := by decide +kernel
theorem dL_law_829 : decode cL_law 829 = .ok (.aload_n 2, 1) := by decide +kernel
theorem dL_law_830 : decode cL_law 830 = .ok (.getfield 59, 3) := by decide +kernel
theorem dL_law_833 : decode cL_law 833 = .ok (.iload 16, 2) := by decide +kernel
theorem dL_law_835 : decode cL_law 835 = .ok (.aload_n 2, 1) := by decide +kernel
theorem dL_law_836 : decode cL_law 836 = .ok (.getfield 66, 3) := by decide +kernel
theorem dL_law_839 : decode cL_law 839 = .ok (.invokevirtual 75, 3) := by decide +kernel
theorem dL_law_842 : decode cL_law 842 = .ok (.ifCond .ne 20, 3) := by decide +kernel
theorem dL_law_845 : decode cL_law 845 = .ok (.aload_n 1, 1) := by decide +kernel
theorem dL_law_846 : decode cL_law 846 = .ok (.invokevirtual 177, 3) := by decide +kernel
theorem dL_law_849 : decode cL_law 849 = .ok (.iconst (-1), 1) := by decide +kernel
theorem dL_law_850 : decode cL_law 850 = .ok (.if_icmp .ne 12, 3) := by decide +kernel
theorem dL_law_853 : decode cL_law 853 = .ok (.aload_n 1, 1) := by decide +kernel
theorem dL_law_854 : decode cL_law 854 = .ok (.invokevirtual 180, 3) := by decide +kernel
theorem dL_law_857 : decode cL_law 857 = .ok (.iload 17, 2) := by decide +kernel
theorem dL_law_859 : decode cL_law 859 = .ok (.if_icmp .eq 5, 3) := by decide +kernel
theorem dL_law_862 : decode cL_law 862 = .ok (.iconst 0, 1) := by decide +kernel
theorem dL_law_863 : decode cL_law 863 = .ok (.ireturn, 1) := by decide +kernel
theorem dL_law_864 : decode cL_law 864 = .ok (.iload 16, 2) := by decide +kernel
theorem dL_law_866 : decode cL_law 866 = .ok (.bipush 9, 2) := by decide +kernel
theorem dL_law_868 : decode cL_law 868 = .ok (.if_icmp .ge 29, 3) := by decide +kernel
theorem dL_law_871 : decode cL_law 871 = .ok (.aload_n 1, 1) := by decide +kernel
theorem dL_law_872 : decode cL_law 872 = .ok (.aload_n 2, 1) := by decide +kernel
theorem dL_law_873 : decode cL_law 873 = .ok (.getfield 59, 3) := by decide +kernel
theorem dL_law_876 : decode cL_law 876 = .ok (.iload 16, 2) := by decide +kernel
theorem dL_law_878 : decode cL_law 878 = .ok (.iconst 1, 1) := by decide +kernel
theorem dL_law_879 : decode cL_law 879 = .ok (.iadd, 1) := by decide +kernel
theorem dL_law_880 : decode cL_law 880 = .ok (.aload_n 2, 1) := by decide +kernel
theorem dL_law_881 : decode cL_law 881 = .ok (.getfield 66, 3) := by decide +kernel
theorem dL_law_884 : decode cL_law 884 = .ok (.invokevirtual 75, 3) := by decide +kernel
theorem dL_law_887 : decode cL_law 887 = .ok (.ifCond .ne 39, 3) := by decide +kernel
theorem dL_law_890 : decode cL_law 890 = .ok (.aload_n 1, 1) := by decide +kernel
theorem dL_law_891 : decode cL_law 891 = .ok (.invokevirtual 177, 3) := by decide +kernel
theorem dL_law_894 : decode cL_law 894 = .ok (.ifCond .lt 32, 3) := by decide +kernel
theorem dL_law_897 : decode cL_law 897 = .ok (.aload_n 1, 1) := by decide +kernel
theorem dL_law_898 : decode cL_law 898 = .ok (.aload_n 2, 1) := by decide +kernel
theorem dL_law_899 : decode cL_law 899 = .ok (.getfield 59, 3) := by decide +kernel
theorem dL_law_902 : decode cL_law 902 = .ok (.aload_n 2, 1) := by decide +kernel
theorem dL_law_903 : decode cL_law 903 = .ok (.getfield 63, 3) := by decide +kernel
theorem dL_law_906 : decode cL_law 906 = .ok (.aload_n 2, 1) := by decide +kernel
theorem dL_law_907 : decode cL_law 907 = .ok (.getfield 66, 3) := by decide +kernel
theorem dL_law_910 : decode cL_law 910 = .ok (.invokevirtual 75, 3) := by decide +kernel
theorem dL_law_913 : decode cL_law 913 = .ok (.ifCond .ne 13, 3) := by decide +kernel
theorem dL_law_916 : decode cL_law 916 = .ok (.aload_n 1, 1) := by decide +kernel
theorem dL_law_917 : decode cL_law 917 = .ok (.invokevirtual 107, 3) := by decide +kernel
theorem dL_law_920 : decode cL_law 920 = .ok (.lload 5, 2) := by decide +kernel
theorem dL_law_922 : decode cL_law 922 = .ok (.lcmp, 1) := by decide +kernel
theorem dL_law_923 : decode cL_law 923 = .ok (.ifCond .eq 5, 3) := by decide +kernel
theorem dL_law_926 : decode cL_law 926 = .ok (.iconst 0, 1) := by decide +kernel
theorem dL_law_927 : decode cL_law 927 = .ok (.ireturn, 1) := by decide +kernel
theorem dL_law_928 : decode cL_law 928 = .ok (.iload 7, 2) := by decide +kernel
theorem dL_law_930 : decode cL_law 930 = .ok (.istore 18, 2) := by decide +kernel
theorem dL_law_932 : decode cL_law 932 = .ok (.iload 18, 2) := by decide +kernel
theorem dL_law_934 : decode cL_law 934 = .ok (.sipush 360, 3) := by decide +kernel
theorem dL_law_937 : decode cL_law 937 = .ok (.if_icmp .ge 79, 3) := by decide +kernel
theorem dL_law_940 : decode cL_law 940 = .ok (.iload 18, 2) := by decide +kernel
theorem dL_law_942 : decode cL_law 942 = .ok (.iload 7, 2) := by decide +kernel
theorem dL_law_944 : decode cL_law 944 = .ok (.bipush 25, 2) := by decide +kernel
theorem dL_law_946 : decode cL_law 946 = .ok (.iadd, 1) := by decide +kernel
theorem dL_law_947 : decode cL_law 947 = .ok (.if_icmp .ge 69, 3) := by decide +kernel
theorem dL_law_950 : decode cL_law 950 = .ok (.aload_n 1, 1) := by decide +kernel
theorem dL_law_951 : decode cL_law 951 = .ok (.iconst 1, 1) := by decide +kernel
theorem dL_law_952 : decode cL_law 952 = .ok (.invokevirtual 89, 3) := by decide +kernel
theorem dL_law_955 : decode cL_law 955 = .ok (.istore 19, 2) := by decide +kernel
theorem dL_law_957 : decode cL_law 957 = .ok (.iload 19, 2) := by decide +kernel
theorem dL_law_959 : decode cL_law 959 = .ok (.aload_n 2, 1) := by decide +kernel
theorem dL_law_960 : decode cL_law 960 = .ok (.invokevirtual 190, 3) := by decide +kernel
theorem dL_law_963 : decode cL_law 963 = .ok (.if_icmp .ne 45, 3) := by decide +kernel
theorem dL_law_966 : decode cL_law 966 = .ok (.iload 19, 2) := by decide +kernel
theorem dL_law_968 : decode cL_law 968 = .ok (.ifCond .le 7, 3) := by decide +kernel
theorem dL_law_971 : decode cL_law 971 = .ok (.iconst 1, 1) := by decide +kernel
theorem dL_law_972 : decode cL_law 972 = .ok (.goto 4, 3) := by decide +kernel
theorem dL_law_975 : decode cL_law 975 = .ok (.iconst 0, 1) := by decide +kernel
theorem dL_law_976 : decode cL_law 976 = .ok (.iload 14, 2) := by decide +kernel
theorem dL_law_978 : decode cL_law 978 = .ok (.ifCond .lt 14, 3) := by decide +kernel
theorem dL_law_981 : decode cL_law 981 = .ok (.iload 18, 2) := by decide +kernel
theorem dL_law_983 : decode cL_law 983 = .ok (.iload 14, 2) := by decide +kernel
theorem dL_law_985 : decode cL_law 985 = .ok (.if_icmp .ne 7, 3) := by decide +kernel
theorem dL_law_988 : decode cL_law 988 = .ok (.iconst 1, 1) := by decide +kernel
theorem dL_law_989 : decode cL_law 989 = .ok (.goto 4, 3) := by decide +kernel
theorem dL_law_992 : decode cL_law 992 = .ok (.iconst 0, 1) := by decide +kernel
theorem dL_law_993 : decode cL_law 993 = .ok (.if_icmp .eq 17, 3) := by decide +kernel
theorem dL_law_996 : decode cL_law 996 = .ok (.iload 14, 2) := by decide +kernel
theorem dL_law_998 : decode cL_law 998 = .ok (.ifCond .lt 10, 3) := by decide +kernel
theorem dL_law_1001 : decode cL_law 1001 = .ok (.iload 18, 2) := by decide +kernel
theorem dL_law_1003 : decode cL_law 1003 = .ok (.iload 14, 2) := by decide +kernel
theorem dL_law_1005 : decode cL_law 1005 = .ok (.if_icmp .gt 5, 3) := by decide +kernel
theorem dL_law_1008 : decode cL_law 1008 = .ok (.iconst 0, 1) := by decide +kernel
theorem dL_law_1009 : decode cL_law 1009 = .ok (.ireturn, 1) := by decide +kernel
theorem dL_law_1010 : decode cL_law 1010 = .ok (.iinc 18 1, 3) := by decide +kernel
theorem dL_law_1013 : decode cL_law 1013 = .ok (.goto (-81), 3) := by decide +kernel
theorem dL_law_1016 : decode cL_law 1016 = .ok (.iload 12, 2) := by decide +kernel
theorem dL_law_1018 : decode cL_law 1018 = .ok (.ifCond .lt 103, 3) := by decide +kernel
theorem dL_law_1021 : decode cL_law 1021 = .ok (.iload 4, 2) := by decide +kernel
theorem dL_law_1023 : decode cL_law 1023 = .ok (.iconst 2, 1) := by decide +kernel
theorem dL_law_1024 : decode cL_law 1024 = .ok (.invokestatic 9, 3) := by decide +kernel
theorem dL_law_1027 : decode cL_law 1027 = .ok (.ifCond .ne 6, 3) := by decide +kernel
theorem dL_law_1030 : decode cL_law 1030 = .ok (.goto 91, 3) := by decide +kernel
theorem dL_law_1033 : decode cL_law 1033 = .ok (.aload_n 1, 1) := by decide +kernel
theorem dL_law_1034 : decode cL_law 1034 = .ok (.iload 12, 2) := by decide +kernel
theorem dL_law_1036 : decode cL_law 1036 = .ok (.invokevirtual 154, 3) := by decide +kernel
theorem dL_law_1039 : decode cL_law 1039 = .ok (.istore 18, 2) := by decide +kernel
theorem dL_law_1041 : decode cL_law 1041 = .ok (.aload_n 2, 1) := by decide +kernel
theorem dL_law_1042 : decode cL_law 1042 = .ok (.aload_n 2, 1) := by decide +kernel
theorem dL_law_1043 : decode cL_law 1043 = .ok (.getfield 35, 3) := by decide +kernel
theorem dL_law_1046 : decode cL_law 1046 = .ok (.iload 12, 2) := by decide +kernel
theorem dL_law_1048 : decode cL_law 1048 = .ok (.invokestatic 46, 3) := by decide +kernel
theorem dL_law_1051 : decode cL_law 1051 = .ok (.putfield 35, 3) := by decide +kernel
theorem dL_law_1054 : decode cL_law 1054 = .ok (.iconst 0, 1) := by decide +kernel
theorem dL_law_1055 : decode cL_law 1055 = .ok (.istore 19, 2) := by decide +kernel
theorem dL_law_1057 : decode cL_law 1057 = .ok (.aload_n 1, 1) := by decide +kernel
theorem dL_law_1058 : decode cL_law 1058 = .ok (.iload 12, 2) := by decide +kernel
theorem dL_law_1060 : decode cL_law 1060 = .ok (.invokevirtual 50, 3) := by decide +kernel
theorem dL_law_1063 : decode cL_law 1063 = .ok (.aload_n 2, 1) := by decide +kernel
theorem dL_law_1064 : decode cL_law 1064 = .ok (.getfield 35, 3) := by decide +kernel
theorem dL_law_1067 : decode cL_law 1067 = .ok (.arraylength, 1) := by decide +kernel
theorem dL_law_1068 : decode cL_law 1068 = .ok (.if_icmp .eq 5, 3) := by decide +kernel
theorem dL_law_1071 : decode cL_law 1071 = .ok (.iconst 0, 1) := by decide +kernel
theorem dL_law_1072 : decode cL_law 1072 = .ok (.ireturn, 1) := by decide +kernel
theorem dL_law_1073 : decode cL_law 1073 = .ok (.iconst 0, 1) := by decide +kernel
theorem dL_law_1074 : decode cL_law 1074 = .ok (.istore 20, 2) := by decide +kernel
theorem dL_law_1076 : decode cL_law 1076 = .ok (.iload 20, 2) := by decide +kernel
theorem dL_law_1078 : decode cL_law 1078 = .ok (.sipush 360, 3) := by decide +kernel
theorem dL_law_1081 : decode cL_law 1081 = .ok (.if_icmp .ge 28, 3) := by decide +kernel
theorem dL_law_1084 : decode cL_law 1084 = .ok (.iload 19, 2) := by decide +kernel
theorem dL_law_1086 : decode cL_law 1086 = .ok (.aload_n 1, 1) := by decide +kernel
theorem dL_law_1087 : decode cL_law 1087 = .ok (.iload 20, 2) := by decide +kernel
theorem dL_law_1089 : decode cL_law 1089 = .ok (.invokevirtual 113, 3) := by decide +kernel
theorem dL_law_1092 : decode cL_law 1092 = .ok (.ifCond .eq 7, 3) := by decide +kernel
theorem dL_law_1095 : decode cL_law 1095 = .ok (.iconst 0, 1) := by decide +kernel
theorem dL_law_1096 : decode cL_law 1096 = .ok (.goto 4, 3) := by decide +kernel
theorem dL_law_1099 : decode cL_law 1099 = .ok (.iconst 1, 1) := by decide +kernel
theorem dL_law_1100 : decode cL_law 1100 = .ok (.iadd, 1) := by decide +kernel
theorem dL_law_1101 : decode cL_law 1101 = .ok (.istore 19, 2) := by decide +kernel
theorem dL_law_1103 : decode cL_law 1103 = .ok (.iinc 20 1, 3) := by decide +kernel
theorem dL_law_1106 : decode cL_law 1106 = .ok (.goto (-30), 3) := by decide +kernel
theorem dL_law_1109 : decode cL_law 1109 = .ok (.iload 19, 2) := by decide +kernel
theorem dL_law_1111 : decode cL_law 1111 = .ok (.iload 11, 2) := by decide +kernel
theorem dL_law_1113 : decode cL_law 1113 = .ok (.iload 18, 2) := by decide +kernel
theorem dL_law_1115 : decode cL_law 1115 = .ok (.iadd, 1) := by decide +kernel
theorem dL_law_1116 : decode cL_law 1116 = .ok (.if_icmp .eq 5, 3) := by decide +kernel
theorem dL_law_1119 : decode cL_law 1119 = .ok (.iconst 0, 1) := by decide +kernel
theorem dL_law_1120 : decode cL_law 1120 = .ok (.ireturn, 1) := by decide +kernel
theorem dL_law_1121 : decode cL_law 1121 = .ok (.iinc 3 1, 3) := by decide +kernel
theorem dL_law_1124 : decode cL_law 1124 = .ok (.goto (-1102), 3) := by decide +kernel
theorem dL_law_1127 : decode cL_law 1127 = .ok (.aload_n 2, 1) := by decide +kernel
theorem dL_law_1128 : decode cL_law 1128 = .ok (.aload_n 1, 1) := by decide +kernel
theorem dL_law_1129 : decode cL_law 1129 = .ok (.invokevirtual 192, 3) := by decide +kernel
theorem dL_law_1132 : decode cL_law 1132 = .ok (.ireturn, 1) := by decide +kernel
