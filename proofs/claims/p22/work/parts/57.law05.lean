theorem dL_law_831 : decode cL_law 831 = .ok (.iadd, 1) := by decide +kernel
theorem dL_law_832 : decode cL_law 832 = .ok (.istore 20, 2) := by decide +kernel
theorem dL_law_834 : decode cL_law 834 = .ok (.aload_n 1, 1) := by decide +kernel
theorem dL_law_835 : decode cL_law 835 = .ok (.iload 5, 2) := by decide +kernel
theorem dL_law_837 : decode cL_law 837 = .ok (.iload 6, 2) := by decide +kernel
theorem dL_law_839 : decode cL_law 839 = .ok (.iload 20, 2) := by decide +kernel
theorem dL_law_841 : decode cL_law 841 = .ok (.invokevirtual 141, 3) := by decide +kernel
theorem dL_law_844 : decode cL_law 844 = .ok (.istore 21, 2) := by decide +kernel
theorem dL_law_846 : decode cL_law 846 = .ok (.aload_n 1, 1) := by decide +kernel
theorem dL_law_847 : decode cL_law 847 = .ok (.iload 5, 2) := by decide +kernel
theorem dL_law_849 : decode cL_law 849 = .ok (.iload 6, 2) := by decide +kernel
theorem dL_law_851 : decode cL_law 851 = .ok (.invokevirtual 144, 3) := by decide +kernel
theorem dL_law_854 : decode cL_law 854 = .ok (.istore 22, 2) := by decide +kernel
theorem dL_law_856 : decode cL_law 856 = .ok (.aload_n 1, 1) := by decide +kernel
theorem dL_law_857 : decode cL_law 857 = .ok (.invokevirtual 127, 3) := by decide +kernel
theorem dL_law_860 : decode cL_law 860 = .ok (.lload 16, 2) := by decide +kernel
theorem dL_law_862 : decode cL_law 862 = .ok (.lcmp, 1) := by decide +kernel
theorem dL_law_863 : decode cL_law 863 = .ok (.ifCond .ne 25, 3) := by decide +kernel
theorem dL_law_866 : decode cL_law 866 = .ok (.iload 21, 2) := by decide +kernel
theorem dL_law_868 : decode cL_law 868 = .ok (.ifCond .lt 20, 3) := by decide +kernel
theorem dL_law_871 : decode cL_law 871 = .ok (.iload 21, 2) := by decide +kernel
theorem dL_law_873 : decode cL_law 873 = .ok (.bipush 19, 2) := by decide +kernel
theorem dL_law_875 : decode cL_law 875 = .ok (.if_icmp .gt 13, 3) := by decide +kernel
theorem dL_law_878 : decode cL_law 878 = .ok (.iload 22, 2) := by decide +kernel
theorem dL_law_880 : decode cL_law 880 = .ok (.aload_n 1, 1) := by decide +kernel
theorem dL_law_881 : decode cL_law 881 = .ok (.iconst 0, 1) := by decide +kernel
theorem dL_law_882 : decode cL_law 882 = .ok (.invokevirtual 110, 3) := by decide +kernel
theorem dL_law_885 : decode cL_law 885 = .ok (.if_icmp .lt 5, 3) := by decide +kernel
theorem dL_law_888 : decode cL_law 888 = .ok (.iconst 0, 1) := by decide +kernel
theorem dL_law_889 : decode cL_law 889 = .ok (.ireturn, 1) := by decide +kernel
theorem dL_law_890 : decode cL_law 890 = .ok (.iload 5, 2) := by decide +kernel
theorem dL_law_892 : decode cL_law 892 = .ok (.iconst 2, 1) := by decide +kernel
theorem dL_law_893 : decode cL_law 893 = .ok (.irem, 1) := by decide +kernel
theorem dL_law_894 : decode cL_law 894 = .ok (.ifCond .ne 7, 3) := by decide +kernel
theorem dL_law_897 : decode cL_law 897 = .ok (.iconst 1, 1) := by decide +kernel
theorem dL_law_898 : decode cL_law 898 = .ok (.goto 4, 3) := by decide +kernel
theorem dL_law_901 : decode cL_law 901 = .ok (.iconst 0, 1) := by decide +kernel
theorem dL_law_902 : decode cL_law 902 = .ok (.istore 23, 2) := by decide +kernel
theorem dL_law_904 : decode cL_law 904 = .ok (.aload_n 2, 1) := by decide +kernel
theorem dL_law_905 : decode cL_law 905 = .ok (.aload_n 2, 1) := by decide +kernel
theorem dL_law_906 : decode cL_law 906 = .ok (.getfield 9, 3) := by decide +kernel
theorem dL_law_909 : decode cL_law 909 = .ok (.bipush 6, 2) := by decide +kernel
theorem dL_law_911 : decode cL_law 911 = .ok (.newarray .int, 2) := by decide +kernel
theorem dL_law_913 : decode cL_law 913 = .ok (.dup, 1) := by decide +kernel
theorem dL_law_914 : decode cL_law 914 = .ok (.iconst 0, 1) := by decide +kernel
theorem dL_law_915 : decode cL_law 915 = .ok (.iload 23, 2) := by decide +kernel
theorem dL_law_917 : decode cL_law 917 = .ok (.ifCond .eq 8, 3) := by decide +kernel
theorem dL_law_920 : decode cL_law 920 = .ok (.iload 21, 2) := by decide +kernel
theorem dL_law_922 : decode cL_law 922 = .ok (.goto 4, 3) := by decide +kernel
theorem dL_law_925 : decode cL_law 925 = .ok (.iconst 0, 1) := by decide +kernel
theorem dL_law_926 : decode cL_law 926 = .ok (.iastore, 1) := by decide +kernel
theorem dL_law_927 : decode cL_law 927 = .ok (.dup, 1) := by decide +kernel
theorem dL_law_928 : decode cL_law 928 = .ok (.iconst 1, 1) := by decide +kernel
theorem dL_law_929 : decode cL_law 929 = .ok (.iload 23, 2) := by decide +kernel
theorem dL_law_931 : decode cL_law 931 = .ok (.ifCond .eq 7, 3) := by decide +kernel
theorem dL_law_934 : decode cL_law 934 = .ok (.iconst 0, 1) := by decide +kernel
theorem dL_law_935 : decode cL_law 935 = .ok (.goto 5, 3) := by decide +kernel
theorem dL_law_938 : decode cL_law 938 = .ok (.iload 21, 2) := by decide +kernel
theorem dL_law_940 : decode cL_law 940 = .ok (.iastore, 1) := by decide +kernel
theorem dL_law_941 : decode cL_law 941 = .ok (.dup, 1) := by decide +kernel
theorem dL_law_942 : decode cL_law 942 = .ok (.iconst 2, 1) := by decide +kernel
theorem dL_law_943 : decode cL_law 943 = .ok (.bipush 20, 2) := by decide +kernel
theorem dL_law_945 : decode cL_law 945 = .ok (.iastore, 1) := by decide +kernel
theorem dL_law_946 : decode cL_law 946 = .ok (.dup, 1) := by decide +kernel
theorem dL_law_947 : decode cL_law 947 = .ok (.iconst 3, 1) := by decide +kernel
theorem dL_law_948 : decode cL_law 948 = .ok (.iload 23, 2) := by decide +kernel
theorem dL_law_950 : decode cL_law 950 = .ok (.ifCond .eq 7, 3) := by decide +kernel
theorem dL_law_953 : decode cL_law 953 = .ok (.iconst 1, 1) := by decide +kernel
theorem dL_law_954 : decode cL_law 954 = .ok (.goto 4, 3) := by decide +kernel
theorem dL_law_957 : decode cL_law 957 = .ok (.iconst 0, 1) := by decide +kernel
theorem dL_law_958 : decode cL_law 958 = .ok (.iastore, 1) := by decide +kernel
theorem dL_law_959 : decode cL_law 959 = .ok (.dup, 1) := by decide +kernel
theorem dL_law_960 : decode cL_law 960 = .ok (.iconst 4, 1) := by decide +kernel
theorem dL_law_961 : decode cL_law 961 = .ok (.iload 20, 2) := by decide +kernel
theorem dL_law_963 : decode cL_law 963 = .ok (.iastore, 1) := by decide +kernel
theorem dL_law_964 : decode cL_law 964 = .ok (.dup, 1) := by decide +kernel
theorem dL_law_965 : decode cL_law 965 = .ok (.iconst 5, 1) := by decide +kernel
theorem dL_law_966 : decode cL_law 966 = .ok (.iconst 0, 1) := by decide +kernel
theorem dL_law_967 : decode cL_law 967 = .ok (.iastore, 1) := by decide +kernel
theorem dL_law_968 : decode cL_law 968 = .ok (.invokestatic 21, 3) := by decide +kernel
theorem dL_law_971 : decode cL_law 971 = .ok (.iload 5, 2) := by decide +kernel
theorem dL_law_973 : decode cL_law 973 = .ok (.iload 6, 2) := by decide +kernel
theorem dL_law_975 : decode cL_law 975 = .ok (.invokevirtual 147, 3) := by decide +kernel
theorem dL_law_978 : decode cL_law 978 = .ok (.istore 24, 2) := by decide +kernel
theorem dL_law_980 : decode cL_law 980 = .ok (.iload 4, 2) := by decide +kernel
theorem dL_law_982 : decode cL_law 982 = .ok (.bipush 7, 2) := by decide +kernel
theorem dL_law_984 : decode cL_law 984 = .ok (.ishr, 1) := by decide +kernel
theorem dL_law_985 : decode cL_law 985 = .ok (.bipush 20, 2) := by decide +kernel
theorem dL_law_987 : decode cL_law 987 = .ok (.invokestatic 15, 3) := by decide +kernel
theorem dL_law_990 : decode cL_law 990 = .ok (.istore 25, 2) := by decide +kernel
theorem dL_law_992 : decode cL_law 992 = .ok (.aload_n 2, 1) := by decide +kernel
theorem dL_law_993 : decode cL_law 993 = .ok (.aload_n 2, 1) := by decide +kernel
theorem dL_law_994 : decode cL_law 994 = .ok (.getfield 9, 3) := by decide +kernel
theorem dL_law_997 : decode cL_law 997 = .ok (.bipush 6, 2) := by decide +kernel
theorem dL_law_999 : decode cL_law 999 = .ok (.newarray .int, 2) := by decide +kernel
theorem dL_law_1001 : decode cL_law 1001 = .ok (.dup, 1) := by decide +kernel
theorem dL_law_1002 : decode cL_law 1002 = .ok (.iconst 0, 1) := by decide +kernel
theorem dL_law_1003 : decode cL_law 1003 = .ok (.iload 23, 2) := by decide +kernel
theorem dL_law_1005 : decode cL_law 1005 = .ok (.ifCond .eq 8, 3) := by decide +kernel
theorem dL_law_1008 : decode cL_law 1008 = .ok (.iload 25, 2) := by decide +kernel
theorem dL_law_1010 : decode cL_law 1010 = .ok (.goto 4, 3) := by decide +kernel
theorem dL_law_1013 : decode cL_law 1013 = .ok (.iconst 0, 1) := by decide +kernel
theorem dL_law_1014 : decode cL_law 1014 = .ok (.iastore, 1) := by decide +kernel
theorem dL_law_1015 : decode cL_law 1015 = .ok (.dup, 1) := by decide +kernel
theorem dL_law_1016 : decode cL_law 1016 = .ok (.iconst 1, 1) := by decide +kernel
theorem dL_law_1017 : decode cL_law 1017 = .ok (.iload 23, 2) := by decide +kernel
theorem dL_law_1019 : decode cL_law 1019 = .ok (.ifCond .eq 7, 3) := by decide +kernel
theorem dL_law_1022 : decode cL_law 1022 = .ok (.iconst 0, 1) := by decide +kernel
theorem dL_law_1023 : decode cL_law 1023 = .ok (.goto 5, 3) := by decide +kernel
theorem dL_law_1026 : decode cL_law 1026 = .ok (.iload 25, 2) := by decide +kernel
