theorem dL_act_551 : decode cL_act 551 = .ok (.invokestatic 15, 3) := by decide +kernel
theorem dL_act_554 : decode cL_act 554 = .ok (.iadd, 1) := by decide +kernel
theorem dL_act_555 : decode cL_act 555 = .ok (.putfield 58, 3) := by decide +kernel
theorem dL_act_558 : decode cL_act 558 = .ok (.aload_n 0, 1) := by decide +kernel
theorem dL_act_559 : decode cL_act 559 = .ok (.aload_n 1, 1) := by decide +kernel
theorem dL_act_560 : decode cL_act 560 = .ok (.getfield 58, 3) := by decide +kernel
theorem dL_act_563 : decode cL_act 563 = .ok (.invokevirtual 62, 3) := by decide +kernel
theorem dL_act_566 : decode cL_act 566 = .ok (.iload 4, 2) := by decide +kernel
theorem dL_act_568 : decode cL_act 568 = .ok (.if_icmp .ne 7, 3) := by decide +kernel
theorem dL_act_571 : decode cL_act 571 = .ok (.iconst 1, 1) := by decide +kernel
theorem dL_act_572 : decode cL_act 572 = .ok (.goto 4, 3) := by decide +kernel
theorem dL_act_575 : decode cL_act 575 = .ok (.iconst 0, 1) := by decide +kernel
theorem dL_act_576 : decode cL_act 576 = .ok (.ireturn, 1) := by decide +kernel
theorem dL_act_577 : decode cL_act 577 = .ok (.aload_n 1, 1) := by decide +kernel
theorem dL_act_578 : decode cL_act 578 = .ok (.getfield 65, 3) := by decide +kernel
theorem dL_act_581 : decode cL_act 581 = .ok (.istore 4, 2) := by decide +kernel
theorem dL_act_583 : decode cL_act 583 = .ok (.aload_n 1, 1) := by decide +kernel
theorem dL_act_584 : decode cL_act 584 = .ok (.iload_n 2, 1) := by decide +kernel
theorem dL_act_585 : decode cL_act 585 = .ok (.iconst 4, 1) := by decide +kernel
theorem dL_act_586 : decode cL_act 586 = .ok (.ishr, 1) := by decide +kernel
theorem dL_act_587 : decode cL_act 587 = .ok (.bipush 41, 2) := by decide +kernel
theorem dL_act_589 : decode cL_act 589 = .ok (.invokestatic 15, 3) := by decide +kernel
theorem dL_act_592 : decode cL_act 592 = .ok (.putfield 65, 3) := by decide +kernel
theorem dL_act_595 : decode cL_act 595 = .ok (.aload_n 0, 1) := by decide +kernel
theorem dL_act_596 : decode cL_act 596 = .ok (.aload_n 1, 1) := by decide +kernel
theorem dL_act_597 : decode cL_act 597 = .ok (.getfield 65, 3) := by decide +kernel
theorem dL_act_600 : decode cL_act 600 = .ok (.invokevirtual 68, 3) := by decide +kernel
theorem dL_act_603 : decode cL_act 603 = .ok (.iload 4, 2) := by decide +kernel
theorem dL_act_605 : decode cL_act 605 = .ok (.if_icmp .ne 7, 3) := by decide +kernel
theorem dL_act_608 : decode cL_act 608 = .ok (.iconst 1, 1) := by decide +kernel
theorem dL_act_609 : decode cL_act 609 = .ok (.goto 4, 3) := by decide +kernel
theorem dL_act_612 : decode cL_act 612 = .ok (.iconst 0, 1) := by decide +kernel
theorem dL_act_613 : decode cL_act 613 = .ok (.ireturn, 1) := by decide +kernel
theorem dL_act_614 : decode cL_act 614 = .ok (.iconst 1, 1) := by decide +kernel
theorem dL_act_615 : decode cL_act 615 = .ok (.iload_n 2, 1) := by decide +kernel
theorem dL_act_616 : decode cL_act 616 = .ok (.iconst 4, 1) := by decide +kernel
theorem dL_act_617 : decode cL_act 617 = .ok (.ishr, 1) := by decide +kernel
theorem dL_act_618 : decode cL_act 618 = .ok (.bipush 30, 2) := by decide +kernel
theorem dL_act_620 : decode cL_act 620 = .ok (.invokestatic 15, 3) := by decide +kernel
theorem dL_act_623 : decode cL_act 623 = .ok (.iadd, 1) := by decide +kernel
theorem dL_act_624 : decode cL_act 624 = .ok (.istore 4, 2) := by decide +kernel
theorem dL_act_626 : decode cL_act 626 = .ok (.iconst 0, 1) := by decide +kernel
theorem dL_act_627 : decode cL_act 627 = .ok (.istore 5, 2) := by decide +kernel
theorem dL_act_629 : decode cL_act 629 = .ok (.aload_n 1, 1) := by decide +kernel
theorem dL_act_630 : decode cL_act 630 = .ok (.getfield 71, 3) := by decide +kernel
theorem dL_act_633 : decode cL_act 633 = .ok (.astore 6, 2) := by decide +kernel
theorem dL_act_635 : decode cL_act 635 = .ok (.aload 6, 2) := by decide +kernel
theorem dL_act_637 : decode cL_act 637 = .ok (.arraylength, 1) := by decide +kernel
theorem dL_act_638 : decode cL_act 638 = .ok (.istore 7, 2) := by decide +kernel
theorem dL_act_640 : decode cL_act 640 = .ok (.iconst 0, 1) := by decide +kernel
theorem dL_act_641 : decode cL_act 641 = .ok (.istore 8, 2) := by decide +kernel
theorem dL_act_643 : decode cL_act 643 = .ok (.iload 8, 2) := by decide +kernel
theorem dL_act_645 : decode cL_act 645 = .ok (.iload 7, 2) := by decide +kernel
theorem dL_act_647 : decode cL_act 647 = .ok (.if_icmp .ge 68, 3) := by decide +kernel
theorem dL_act_650 : decode cL_act 650 = .ok (.aload 6, 2) := by decide +kernel
theorem dL_act_652 : decode cL_act 652 = .ok (.iload 8, 2) := by decide +kernel
theorem dL_act_654 : decode cL_act 654 = .ok (.aaload, 1) := by decide +kernel
theorem dL_act_655 : decode cL_act 655 = .ok (.astore 9, 2) := by decide +kernel
theorem dL_act_657 : decode cL_act 657 = .ok (.iconst 0, 1) := by decide +kernel
theorem dL_act_658 : decode cL_act 658 = .ok (.istore 10, 2) := by decide +kernel
theorem dL_act_660 : decode cL_act 660 = .ok (.iload 10, 2) := by decide +kernel
theorem dL_act_662 : decode cL_act 662 = .ok (.bipush 20, 2) := by decide +kernel
theorem dL_act_664 : decode cL_act 664 = .ok (.if_icmp .ge 45, 3) := by decide +kernel
theorem dL_act_667 : decode cL_act 667 = .ok (.aload 9, 2) := by decide +kernel
theorem dL_act_669 : decode cL_act 669 = .ok (.iload 10, 2) := by decide +kernel
theorem dL_act_671 : decode cL_act 671 = .ok (.iaload, 1) := by decide +kernel
theorem dL_act_672 : decode cL_act 672 = .ok (.istore 11, 2) := by decide +kernel
theorem dL_act_674 : decode cL_act 674 = .ok (.aload 9, 2) := by decide +kernel
theorem dL_act_676 : decode cL_act 676 = .ok (.iload 10, 2) := by decide +kernel
theorem dL_act_678 : decode cL_act 678 = .ok (.sipush 200, 3) := by decide +kernel
theorem dL_act_681 : decode cL_act 681 = .ok (.iload 11, 2) := by decide +kernel
theorem dL_act_683 : decode cL_act 683 = .ok (.iload 4, 2) := by decide +kernel
theorem dL_act_685 : decode cL_act 685 = .ok (.iadd, 1) := by decide +kernel
theorem dL_act_686 : decode cL_act 686 = .ok (.invokestatic 74, 3) := by decide +kernel
theorem dL_act_689 : decode cL_act 689 = .ok (.iastore, 1) := by decide +kernel
theorem dL_act_690 : decode cL_act 690 = .ok (.iload 5, 2) := by decide +kernel
theorem dL_act_692 : decode cL_act 692 = .ok (.aload 9, 2) := by decide +kernel
theorem dL_act_694 : decode cL_act 694 = .ok (.iload 10, 2) := by decide +kernel
theorem dL_act_696 : decode cL_act 696 = .ok (.iaload, 1) := by decide +kernel
theorem dL_act_697 : decode cL_act 697 = .ok (.iload 11, 2) := by decide +kernel
theorem dL_act_699 : decode cL_act 699 = .ok (.isub, 1) := by decide +kernel
theorem dL_act_700 : decode cL_act 700 = .ok (.iadd, 1) := by decide +kernel
theorem dL_act_701 : decode cL_act 701 = .ok (.istore 5, 2) := by decide +kernel
theorem dL_act_703 : decode cL_act 703 = .ok (.iinc 10 1, 3) := by decide +kernel
theorem dL_act_706 : decode cL_act 706 = .ok (.goto (-46), 3) := by decide +kernel
theorem dL_act_709 : decode cL_act 709 = .ok (.iinc 8 1, 3) := by decide +kernel
theorem dL_act_712 : decode cL_act 712 = .ok (.goto (-69), 3) := by decide +kernel
theorem dL_act_715 : decode cL_act 715 = .ok (.aload_n 0, 1) := by decide +kernel
theorem dL_act_716 : decode cL_act 716 = .ok (.iload 4, 2) := by decide +kernel
theorem dL_act_718 : decode cL_act 718 = .ok (.invokevirtual 79, 3) := by decide +kernel
theorem dL_act_721 : decode cL_act 721 = .ok (.iload 5, 2) := by decide +kernel
theorem dL_act_723 : decode cL_act 723 = .ok (.if_icmp .ne 7, 3) := by decide +kernel
theorem dL_act_726 : decode cL_act 726 = .ok (.iconst 1, 1) := by decide +kernel
theorem dL_act_727 : decode cL_act 727 = .ok (.goto 4, 3) := by decide +kernel
theorem dL_act_730 : decode cL_act 730 = .ok (.iconst 0, 1) := by decide +kernel
theorem dL_act_731 : decode cL_act 731 = .ok (.ireturn, 1) := by decide +kernel
theorem dL_act_732 : decode cL_act 732 = .ok (.aload_n 1, 1) := by decide +kernel
theorem dL_act_733 : decode cL_act 733 = .ok (.getfield 51, 3) := by decide +kernel
theorem dL_act_736 : decode cL_act 736 = .ok (.arraylength, 1) := by decide +kernel
theorem dL_act_737 : decode cL_act 737 = .ok (.ifCond .ne 5, 3) := by decide +kernel
theorem dL_act_740 : decode cL_act 740 = .ok (.iconst 1, 1) := by decide +kernel
theorem dL_act_741 : decode cL_act 741 = .ok (.ireturn, 1) := by decide +kernel
theorem dL_act_742 : decode cL_act 742 = .ok (.iload_n 2, 1) := by decide +kernel
theorem dL_act_743 : decode cL_act 743 = .ok (.iconst 4, 1) := by decide +kernel
theorem dL_act_744 : decode cL_act 744 = .ok (.ishr, 1) := by decide +kernel
theorem dL_act_745 : decode cL_act 745 = .ok (.aload_n 1, 1) := by decide +kernel
theorem dL_act_746 : decode cL_act 746 = .ok (.getfield 51, 3) := by decide +kernel
theorem dL_act_749 : decode cL_act 749 = .ok (.arraylength, 1) := by decide +kernel
theorem dL_act_750 : decode cL_act 750 = .ok (.invokestatic 15, 3) := by decide +kernel
theorem dL_act_753 : decode cL_act 753 = .ok (.istore 4, 2) := by decide +kernel
theorem dL_act_755 : decode cL_act 755 = .ok (.aload_n 1, 1) := by decide +kernel
theorem dL_act_756 : decode cL_act 756 = .ok (.getfield 51, 3) := by decide +kernel
theorem dL_act_759 : decode cL_act 759 = .ok (.iload 4, 2) := by decide +kernel
theorem dL_act_761 : decode cL_act 761 = .ok (.aaload, 1) := by decide +kernel
theorem dL_act_762 : decode cL_act 762 = .ok (.astore 5, 2) := by decide +kernel
theorem dL_act_764 : decode cL_act 764 = .ok (.iconst 0, 1) := by decide +kernel
theorem dL_act_765 : decode cL_act 765 = .ok (.istore 6, 2) := by decide +kernel
theorem dL_act_767 : decode cL_act 767 = .ok (.iconst 0, 1) := by decide +kernel
theorem dL_act_768 : decode cL_act 768 = .ok (.istore 7, 2) := by decide +kernel
theorem dL_act_770 : decode cL_act 770 = .ok (.iload 7, 2) := by decide +kernel
theorem dL_act_772 : decode cL_act 772 = .ok (.bipush 20, 2) := by decide +kernel
theorem dL_act_774 : decode cL_act 774 = .ok (.if_icmp .ge 59, 3) := by decide +kernel
theorem dL_act_777 : decode cL_act 777 = .ok (.iload 6, 2) := by decide +kernel
theorem dL_act_779 : decode cL_act 779 = .ok (.aload_n 1, 1) := by decide +kernel
theorem dL_act_780 : decode cL_act 780 = .ok (.aload 5, 2) := by decide +kernel
theorem dL_act_782 : decode cL_act 782 = .ok (.iload 7, 2) := by decide +kernel
theorem dL_act_784 : decode cL_act 784 = .ok (.invokevirtual 82, 3) := by decide +kernel
theorem dL_act_787 : decode cL_act 787 = .ok (.iadd, 1) := by decide +kernel
theorem dL_act_788 : decode cL_act 788 = .ok (.istore 6, 2) := by decide +kernel
theorem dL_act_790 : decode cL_act 790 = .ok (.aload 5, 2) := by decide +kernel
theorem dL_act_792 : decode cL_act 792 = .ok (.iconst 0, 1) := by decide +kernel
theorem dL_act_793 : decode cL_act 793 = .ok (.iaload, 1) := by decide +kernel
theorem dL_act_794 : decode cL_act 794 = .ok (.iconst 1, 1) := by decide +kernel
theorem dL_act_795 : decode cL_act 795 = .ok (.if_icmp .ne 19, 3) := by decide +kernel
theorem dL_act_798 : decode cL_act 798 = .ok (.aload_n 1, 1) := by decide +kernel
theorem dL_act_799 : decode cL_act 799 = .ok (.getfield 71, 3) := by decide +kernel
theorem dL_act_802 : decode cL_act 802 = .ok (.iload 7, 2) := by decide +kernel
theorem dL_act_804 : decode cL_act 804 = .ok (.aaload, 1) := by decide +kernel
theorem dL_act_805 : decode cL_act 805 = .ok (.aload 5, 2) := by decide +kernel
theorem dL_act_807 : decode cL_act 807 = .ok (.iconst 1, 1) := by decide +kernel
theorem dL_act_808 : decode cL_act 808 = .ok (.iaload, 1) := by decide +kernel
theorem dL_act_809 : decode cL_act 809 = .ok (.iconst 0, 1) := by decide +kernel
theorem dL_act_810 : decode cL_act 810 = .ok (.iastore, 1) := by decide +kernel
theorem dL_act_811 : decode cL_act 811 = .ok (.goto 16, 3) := by decide +kernel
theorem dL_act_814 : decode cL_act 814 = .ok (.aload_n 1, 1) := by decide +kernel
theorem dL_act_815 : decode cL_act 815 = .ok (.getfield 71, 3) := by decide +kernel
theorem dL_act_818 : decode cL_act 818 = .ok (.aload 5, 2) := by decide +kernel
theorem dL_act_820 : decode cL_act 820 = .ok (.iconst 1, 1) := by decide +kernel
theorem dL_act_821 : decode cL_act 821 = .ok (.iaload, 1) := by decide +kernel
theorem dL_act_822 : decode cL_act 822 = .ok (.aaload, 1) := by decide +kernel
theorem dL_act_823 : decode cL_act 823 = .ok (.iload 7, 2) := by decide +kernel
theorem dL_act_825 : decode cL_act 825 = .ok (.iconst 0, 1) := by decide +kernel
theorem dL_act_826 : decode cL_act 826 = .ok (.iastore, 1) := by decide +kernel
theorem dL_act_827 : decode cL_act 827 = .ok (.iinc 7 1, 3) := by decide +kernel
theorem dL_act_830 : decode cL_act 830 = .ok (.goto (-60), 3) := by decide +kernel
theorem dL_act_833 : decode cL_act 833 = .ok (.aload_n 1, 1) := by decide +kernel
theorem dL_act_834 : decode cL_act 834 = .ok (.dup, 1) := by decide +kernel
theorem dL_act_835 : decode cL_act 835 = .ok (.getfield 86, 3) := by decide +kernel
theorem dL_act_838 : decode cL_act 838 = .ok (.iload 6, 2) := by decide +kernel
theorem dL_act_840 : decode cL_act 840 = .ok (.iadd, 1) := by decide +kernel
theorem dL_act_841 : decode cL_act 841 = .ok (.putfield 86, 3) := by decide +kernel
theorem dL_act_844 : decode cL_act 844 = .ok (.aload_n 0, 1) := by decide +kernel
theorem dL_act_845 : decode cL_act 845 = .ok (.iload 4, 2) := by decide +kernel
theorem dL_act_847 : decode cL_act 847 = .ok (.invokevirtual 89, 3) := by decide +kernel
theorem dL_act_850 : decode cL_act 850 = .ok (.iload 6, 2) := by decide +kernel
theorem dL_act_852 : decode cL_act 852 = .ok (.if_icmp .ne 7, 3) := by decide +kernel
theorem dL_act_855 : decode cL_act 855 = .ok (.iconst 1, 1) := by decide +kernel
theorem dL_act_856 : decode cL_act 856 = .ok (.goto 4, 3) := by decide +kernel
theorem dL_act_859 : decode cL_act 859 = .ok (.iconst 0, 1) := by decide +kernel
theorem dL_act_860 : decode cL_act 860 = .ok (.ireturn, 1) := by decide +kernel
theorem dL_act_861 : decode cL_act 861 = .ok (.iload_n 2, 1) := by decide +kernel
theorem dL_act_862 : decode cL_act 862 = .ok (.iconst 3, 1) := by decide +kernel
theorem dL_act_863 : decode cL_act 863 = .ok (.ishr, 1) := by decide +kernel
theorem dL_act_864 : decode cL_act 864 = .ok (.iconst 4, 1) := by decide +kernel
theorem dL_act_865 : decode cL_act 865 = .ok (.invokestatic 15, 3) := by decide +kernel
theorem dL_act_868 : decode cL_act 868 = .ok (.istore 4, 2) := by decide +kernel
theorem dL_act_870 : decode cL_act 870 = .ok (.iconst 1, 1) := by decide +kernel
theorem dL_act_871 : decode cL_act 871 = .ok (.iload_n 2, 1) := by decide +kernel
theorem dL_act_872 : decode cL_act 872 = .ok (.iconst 5, 1) := by decide +kernel
theorem dL_act_873 : decode cL_act 873 = .ok (.ishr, 1) := by decide +kernel
theorem dL_act_874 : decode cL_act 874 = .ok (.bipush 9, 2) := by decide +kernel
theorem dL_act_876 : decode cL_act 876 = .ok (.invokestatic 15, 3) := by decide +kernel
theorem dL_act_879 : decode cL_act 879 = .ok (.iadd, 1) := by decide +kernel
theorem dL_act_880 : decode cL_act 880 = .ok (.istore 5, 2) := by decide +kernel
theorem dL_act_882 : decode cL_act 882 = .ok (.iconst 1, 1) := by decide +kernel
theorem dL_act_883 : decode cL_act 883 = .ok (.iload_n 2, 1) := by decide +kernel
theorem dL_act_884 : decode cL_act 884 = .ok (.bipush 7, 2) := by decide +kernel
theorem dL_act_886 : decode cL_act 886 = .ok (.ishr, 1) := by decide +kernel
theorem dL_act_887 : decode cL_act 887 = .ok (.iload_n 2, 1) := by decide +kernel
theorem dL_act_888 : decode cL_act 888 = .ok (.iconst 4, 1) := by decide +kernel
theorem dL_act_889 : decode cL_act 889 = .ok (.ishr, 1) := by decide +kernel
theorem dL_act_890 : decode cL_act 890 = .ok (.iconst 4, 1) := by decide +kernel
theorem dL_act_891 : decode cL_act 891 = .ok (.invokestatic 15, 3) := by decide +kernel
theorem dL_act_894 : decode cL_act 894 = .ok (.ifCond .ne 8, 3) := by decide +kernel
theorem dL_act_897 : decode cL_act 897 = .ok (.bipush 24, 2) := by decide +kernel
theorem dL_act_899 : decode cL_act 899 = .ok (.goto 4, 3) := by decide +kernel
theorem dL_act_902 : decode cL_act 902 = .ok (.iconst 4, 1) := by decide +kernel
theorem dL_act_903 : decode cL_act 903 = .ok (.invokestatic 15, 3) := by decide +kernel
theorem dL_act_906 : decode cL_act 906 = .ok (.iadd, 1) := by decide +kernel
theorem dL_act_907 : decode cL_act 907 = .ok (.istore 6, 2) := by decide +kernel
theorem dL_act_909 : decode cL_act 909 = .ok (.aload_n 0, 1) := by decide +kernel
theorem dL_act_910 : decode cL_act 910 = .ok (.iload 4, 2) := by decide +kernel
theorem dL_act_912 : decode cL_act 912 = .ok (.iload 5, 2) := by decide +kernel
theorem dL_act_914 : decode cL_act 914 = .ok (.iload 6, 2) := by decide +kernel
theorem dL_act_916 : decode cL_act 916 = .ok (.invokevirtual 92, 3) := by decide +kernel
theorem dL_act_919 : decode cL_act 919 = .ok (.aload_n 1, 1) := by decide +kernel
theorem dL_act_920 : decode cL_act 920 = .ok (.iload 4, 2) := by decide +kernel
theorem dL_act_922 : decode cL_act 922 = .ok (.iload 5, 2) := by decide +kernel
theorem dL_act_924 : decode cL_act 924 = .ok (.iload 6, 2) := by decide +kernel
theorem dL_act_926 : decode cL_act 926 = .ok (.invokevirtual 95, 3) := by decide +kernel
theorem dL_act_929 : decode cL_act 929 = .ok (.if_icmp .ne 7, 3) := by decide +kernel
theorem dL_act_932 : decode cL_act 932 = .ok (.iconst 1, 1) := by decide +kernel
theorem dL_act_933 : decode cL_act 933 = .ok (.goto 4, 3) := by decide +kernel
theorem dL_act_936 : decode cL_act 936 = .ok (.iconst 0, 1) := by decide +kernel
theorem dL_act_937 : decode cL_act 937 = .ok (.ireturn, 1) := by decide +kernel
theorem dL_build_0 : decode cL_build 0 = .ok (.new 10, 3) := by decide +kernel
theorem dL_build_3 : decode cL_build 3 = .ok (.dup, 1) := by decide +kernel
theorem dL_build_4 : decode cL_build 4 = .ok (.invokespecial 96, 3) := by decide +kernel
theorem dL_build_7 : decode cL_build 7 = .ok (.astore_n 2, 1) := by decide +kernel
theorem dL_build_8 : decode cL_build 8 = .ok (.bipush 8, 2) := by decide +kernel
theorem dL_build_10 : decode cL_build 10 = .ok (.newarray .int, 2) := by decide +kernel
theorem dL_build_12 : decode cL_build 12 = .ok (.dup, 1) := by decide +kernel
theorem dL_build_13 : decode cL_build 13 = .ok (.iconst 0, 1) := by decide +kernel
theorem dL_build_14 : decode cL_build 14 = .ok (.iconst 0, 1) := by decide +kernel
theorem dL_build_15 : decode cL_build 15 = .ok (.iastore, 1) := by decide +kernel
theorem dL_build_16 : decode cL_build 16 = .ok (.dup, 1) := by decide +kernel
theorem dL_build_17 : decode cL_build 17 = .ok (.iconst 1, 1) := by decide +kernel
theorem dL_build_18 : decode cL_build 18 = .ok (.iconst 1, 1) := by decide +kernel
theorem dL_build_19 : decode cL_build 19 = .ok (.iastore, 1) := by decide +kernel
theorem dL_build_20 : decode cL_build 20 = .ok (.dup, 1) := by decide +kernel
theorem dL_build_21 : decode cL_build 21 = .ok (.iconst 2, 1) := by decide +kernel
theorem dL_build_22 : decode cL_build 22 = .ok (.iconst 5, 1) := by decide +kernel
theorem dL_build_23 : decode cL_build 23 = .ok (.iastore, 1) := by decide +kernel
theorem dL_build_24 : decode cL_build 24 = .ok (.dup, 1) := by decide +kernel
theorem dL_build_25 : decode cL_build 25 = .ok (.iconst 3, 1) := by decide +kernel
theorem dL_build_26 : decode cL_build 26 = .ok (.bipush 8, 2) := by decide +kernel
theorem dL_build_28 : decode cL_build 28 = .ok (.iastore, 1) := by decide +kernel
theorem dL_build_29 : decode cL_build 29 = .ok (.dup, 1) := by decide +kernel
theorem dL_build_30 : decode cL_build 30 = .ok (.iconst 4, 1) := by decide +kernel
theorem dL_build_31 : decode cL_build 31 = .ok (.iconst 0, 1) := by decide +kernel
theorem dL_build_32 : decode cL_build 32 = .ok (.iastore, 1) := by decide +kernel
theorem dL_build_33 : decode cL_build 33 = .ok (.dup, 1) := by decide +kernel
theorem dL_build_34 : decode cL_build 34 = .ok (.iconst 5, 1) := by decide +kernel
theorem dL_build_35 : decode cL_build 35 = .ok (.iconst 5, 1) := by decide +kernel
theorem dL_build_36 : decode cL_build 36 = .ok (.iastore, 1) := by decide +kernel
theorem dL_build_37 : decode cL_build 37 = .ok (.dup, 1) := by decide +kernel
theorem dL_build_38 : decode cL_build 38 = .ok (.bipush 6, 2) := by decide +kernel
theorem dL_build_40 : decode cL_build 40 = .ok (.bipush 7, 2) := by decide +kernel
theorem dL_build_42 : decode cL_build 42 = .ok (.iastore, 1) := by decide +kernel
theorem dL_build_43 : decode cL_build 43 = .ok (.dup, 1) := by decide +kernel
theorem dL_build_44 : decode cL_build 44 = .ok (.bipush 7, 2) := by decide +kernel
theorem dL_build_46 : decode cL_build 46 = .ok (.bipush 8, 2) := by decide +kernel
theorem dL_build_48 : decode cL_build 48 = .ok (.iastore, 1) := by decide +kernel
theorem dL_build_49 : decode cL_build 49 = .ok (.astore_n 3, 1) := by decide +kernel
theorem dL_build_50 : decode cL_build 50 = .ok (.iconst 0, 1) := by decide +kernel
theorem dL_build_51 : decode cL_build 51 = .ok (.istore 4, 2) := by decide +kernel
theorem dL_build_53 : decode cL_build 53 = .ok (.iload 4, 2) := by decide +kernel
theorem dL_build_55 : decode cL_build 55 = .ok (.bipush 14, 2) := by decide +kernel
theorem dL_build_57 : decode cL_build 57 = .ok (.if_icmp .ge 62, 3) := by decide +kernel
theorem dL_build_60 : decode cL_build 60 = .ok (.aload_n 0, 1) := by decide +kernel
theorem dL_build_61 : decode cL_build 61 = .ok (.aload_n 2, 1) := by decide +kernel
theorem dL_build_62 : decode cL_build 62 = .ok (.iload 4, 2) := by decide +kernel
theorem dL_build_64 : decode cL_build 64 = .ok (.bipush 8, 2) := by decide +kernel
theorem dL_build_66 : decode cL_build 66 = .ok (.if_icmp .ge 27, 3) := by decide +kernel
theorem dL_build_69 : decode cL_build 69 = .ok (.bipush 13, 2) := by decide +kernel
theorem dL_build_71 : decode cL_build 71 = .ok (.aload_n 1, 1) := by decide +kernel
theorem dL_build_72 : decode cL_build 72 = .ok (.iload 4, 2) := by decide +kernel
theorem dL_build_74 : decode cL_build 74 = .ok (.invokestatic 97, 3) := by decide +kernel
theorem dL_build_77 : decode cL_build 77 = .ok (.iconst 4, 1) := by decide +kernel
theorem dL_build_78 : decode cL_build 78 = .ok (.ishr, 1) := by decide +kernel
theorem dL_build_79 : decode cL_build 79 = .ok (.ldc 100, 2) := by decide +kernel
theorem dL_build_81 : decode cL_build 81 = .ok (.invokestatic 15, 3) := by decide +kernel
theorem dL_build_84 : decode cL_build 84 = .ok (.imul, 1) := by decide +kernel
theorem dL_build_85 : decode cL_build 85 = .ok (.aload_n 3, 1) := by decide +kernel
theorem dL_build_86 : decode cL_build 86 = .ok (.iload 4, 2) := by decide +kernel
theorem dL_build_88 : decode cL_build 88 = .ok (.iaload, 1) := by decide +kernel
theorem dL_build_89 : decode cL_build 89 = .ok (.iadd, 1) := by decide +kernel
theorem dL_build_90 : decode cL_build 90 = .ok (.goto 15, 3) := by decide +kernel
theorem dL_build_93 : decode cL_build 93 = .ok (.aload_n 1, 1) := by decide +kernel
theorem dL_build_94 : decode cL_build 94 = .ok (.iload 4, 2) := by decide +kernel
theorem dL_build_96 : decode cL_build 96 = .ok (.invokestatic 97, 3) := by decide +kernel
theorem dL_build_99 : decode cL_build 99 = .ok (.bipush 71, 2) := by decide +kernel
theorem dL_build_101 : decode cL_build 101 = .ok (.iload 4, 2) := by decide +kernel
theorem dL_build_103 : decode cL_build 103 = .ok (.imul, 1) := by decide +kernel
theorem dL_build_104 : decode cL_build 104 = .ok (.iadd, 1) := by decide +kernel
theorem dL_build_105 : decode cL_build 105 = .ok (.invokestatic 101, 3) := by decide +kernel
theorem dL_build_108 : decode cL_build 108 = .ok (.ifCond .ne 5, 3) := by decide +kernel
theorem dL_build_111 : decode cL_build 111 = .ok (.aconst_null, 1) := by decide +kernel
theorem dL_build_112 : decode cL_build 112 = .ok (.areturn, 1) := by decide +kernel
theorem dL_build_113 : decode cL_build 113 = .ok (.iinc 4 1, 3) := by decide +kernel
theorem dL_build_116 : decode cL_build 116 = .ok (.goto (-63), 3) := by decide +kernel
theorem dL_build_119 : decode cL_build 119 = .ok (.aload_n 2, 1) := by decide +kernel
theorem dL_build_120 : decode cL_build 120 = .ok (.areturn, 1) := by decide +kernel
