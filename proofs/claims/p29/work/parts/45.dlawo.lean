theorem dL_step_901 : decode cL_step 901 = .ok (.aload 4, 2) := by decide +kernel
theorem dL_step_903 : decode cL_step 903 = .ok (.iload 8, 2) := by decide +kernel
theorem dL_step_905 : decode cL_step 905 = .ok (.bipush 12, 2) := by decide +kernel
theorem dL_step_907 : decode cL_step 907 = .ok (.iadd, 1) := by decide +kernel
theorem dL_step_908 : decode cL_step 908 = .ok (.iload_n 2, 1) := by decide +kernel
theorem dL_step_909 : decode cL_step 909 = .ok (.iconst 3, 1) := by decide +kernel
theorem dL_step_910 : decode cL_step 910 = .ok (.irem, 1) := by decide +kernel
theorem dL_step_911 : decode cL_step 911 = .ok (.ifCond .ne 12, 3) := by decide +kernel
theorem dL_step_914 : decode cL_step 914 = .ok (.iload_n 2, 1) := by decide +kernel
theorem dL_step_915 : decode cL_step 915 = .ok (.sipush 500, 3) := by decide +kernel
theorem dL_step_918 : decode cL_step 918 = .ok (.irem, 1) := by decide +kernel
theorem dL_step_919 : decode cL_step 919 = .ok (.i2l, 1) := by decide +kernel
theorem dL_step_920 : decode cL_step 920 = .ok (.goto 8, 3) := by decide +kernel
theorem dL_step_923 : decode cL_step 923 = .ok (.iload_n 2, 1) := by decide +kernel
theorem dL_step_924 : decode cL_step 924 = .ok (.bipush 20, 2) := by decide +kernel
theorem dL_step_926 : decode cL_step 926 = .ok (.irem, 1) := by decide +kernel
theorem dL_step_927 : decode cL_step 927 = .ok (.i2l, 1) := by decide +kernel
theorem dL_step_928 : decode cL_step 928 = .ok (.lastore, 1) := by decide +kernel
theorem dL_step_929 : decode cL_step 929 = .ok (.aload 4, 2) := by decide +kernel
theorem dL_step_931 : decode cL_step 931 = .ok (.iload 8, 2) := by decide +kernel
theorem dL_step_933 : decode cL_step 933 = .ok (.bipush 13, 2) := by decide +kernel
theorem dL_step_935 : decode cL_step 935 = .ok (.iadd, 1) := by decide +kernel
theorem dL_step_936 : decode cL_step 936 = .ok (.aload_n 0, 1) := by decide +kernel
theorem dL_step_937 : decode cL_step 937 = .ok (.iload 7, 2) := by decide +kernel
theorem dL_step_939 : decode cL_step 939 = .ok (.invokevirtual 52, 3) := by decide +kernel
theorem dL_step_942 : decode cL_step 942 = .ok (.lastore, 1) := by decide +kernel
theorem dL_step_943 : decode cL_step 943 = .ok (.aload 4, 2) := by decide +kernel
theorem dL_step_945 : decode cL_step 945 = .ok (.iload 8, 2) := by decide +kernel
theorem dL_step_947 : decode cL_step 947 = .ok (.bipush 15, 2) := by decide +kernel
theorem dL_step_949 : decode cL_step 949 = .ok (.iadd, 1) := by decide +kernel
theorem dL_step_950 : decode cL_step 950 = .ok (.lconst 0, 1) := by decide +kernel
theorem dL_step_951 : decode cL_step 951 = .ok (.lastore, 1) := by decide +kernel
theorem dL_step_952 : decode cL_step 952 = .ok (.aload 6, 2) := by decide +kernel
theorem dL_step_954 : decode cL_step 954 = .ok (.iconst 3, 1) := by decide +kernel
theorem dL_step_955 : decode cL_step 955 = .ok (.iload 7, 2) := by decide +kernel
theorem dL_step_957 : decode cL_step 957 = .ok (.iadd, 1) := by decide +kernel
theorem dL_step_958 : decode cL_step 958 = .ok (.iconst 0, 1) := by decide +kernel
theorem dL_step_959 : decode cL_step 959 = .ok (.iastore, 1) := by decide +kernel
theorem dL_step_960 : decode cL_step 960 = .ok (.aload_n 0, 1) := by decide +kernel
theorem dL_step_961 : decode cL_step 961 = .ok (.iload 7, 2) := by decide +kernel
theorem dL_step_963 : decode cL_step 963 = .ok (.aload 4, 2) := by decide +kernel
theorem dL_step_965 : decode cL_step 965 = .ok (.iload 8, 2) := by decide +kernel
theorem dL_step_967 : decode cL_step 967 = .ok (.bipush 11, 2) := by decide +kernel
theorem dL_step_969 : decode cL_step 969 = .ok (.iadd, 1) := by decide +kernel
theorem dL_step_970 : decode cL_step 970 = .ok (.laload, 1) := by decide +kernel
theorem dL_step_971 : decode cL_step 971 = .ok (.l2i, 1) := by decide +kernel
theorem dL_step_972 : decode cL_step 972 = .ok (.aload 4, 2) := by decide +kernel
theorem dL_step_974 : decode cL_step 974 = .ok (.iload 8, 2) := by decide +kernel
theorem dL_step_976 : decode cL_step 976 = .ok (.bipush 12, 2) := by decide +kernel
theorem dL_step_978 : decode cL_step 978 = .ok (.iadd, 1) := by decide +kernel
theorem dL_step_979 : decode cL_step 979 = .ok (.laload, 1) := by decide +kernel
theorem dL_step_980 : decode cL_step 980 = .ok (.l2i, 1) := by decide +kernel
theorem dL_step_981 : decode cL_step 981 = .ok (.invokevirtual 172, 3) := by decide +kernel
theorem dL_step_984 : decode cL_step 984 = .ok (.aload_n 0, 1) := by decide +kernel
theorem dL_step_985 : decode cL_step 985 = .ok (.iload 7, 2) := by decide +kernel
theorem dL_step_987 : decode cL_step 987 = .ok (.invokevirtual 30, 3) := by decide +kernel
theorem dL_step_990 : decode cL_step 990 = .ok (.iconst 3, 1) := by decide +kernel
theorem dL_step_991 : decode cL_step 991 = .ok (.if_icmp .ne 17, 3) := by decide +kernel
theorem dL_step_994 : decode cL_step 994 = .ok (.aload_n 0, 1) := by decide +kernel
theorem dL_step_995 : decode cL_step 995 = .ok (.iload 7, 2) := by decide +kernel
theorem dL_step_997 : decode cL_step 997 = .ok (.invokevirtual 39, 3) := by decide +kernel
theorem dL_step_1000 : decode cL_step 1000 = .ok (.iconst 1, 1) := by decide +kernel
theorem dL_step_1001 : decode cL_step 1001 = .ok (.if_icmp .ne 7, 3) := by decide +kernel
theorem dL_step_1004 : decode cL_step 1004 = .ok (.iconst 1, 1) := by decide +kernel
theorem dL_step_1005 : decode cL_step 1005 = .ok (.goto 4, 3) := by decide +kernel
theorem dL_step_1008 : decode cL_step 1008 = .ok (.iconst 0, 1) := by decide +kernel
theorem dL_step_1009 : decode cL_step 1009 = .ok (.ireturn, 1) := by decide +kernel
theorem dL_step_1010 : decode cL_step 1010 = .ok (.aload_n 0, 1) := by decide +kernel
theorem dL_step_1011 : decode cL_step 1011 = .ok (.aload 4, 2) := by decide +kernel
theorem dL_step_1013 : decode cL_step 1013 = .ok (.aload 6, 2) := by decide +kernel
theorem dL_step_1015 : decode cL_step 1015 = .ok (.iload 7, 2) := by decide +kernel
theorem dL_step_1017 : decode cL_step 1017 = .ok (.iload_n 3, 1) := by decide +kernel
theorem dL_step_1018 : decode cL_step 1018 = .ok (.iconst 3, 1) := by decide +kernel
theorem dL_step_1019 : decode cL_step 1019 = .ok (.irem, 1) := by decide +kernel
theorem dL_step_1020 : decode cL_step 1020 = .ok (.invokestatic 168, 3) := by decide +kernel
theorem dL_step_1023 : decode cL_step 1023 = .ok (.ireturn, 1) := by decide +kernel
theorem dL_bench_0 : decode cL_bench 0 = .ok (.new 31, 3) := by decide +kernel
theorem dL_bench_3 : decode cL_bench 3 = .ok (.dup, 1) := by decide +kernel
theorem dL_bench_4 : decode cL_bench 4 = .ok (.invokespecial 175, 3) := by decide +kernel
theorem dL_bench_7 : decode cL_bench 7 = .ok (.astore_n 2, 1) := by decide +kernel
theorem dL_bench_8 : decode cL_bench 8 = .ok (.bipush 60, 2) := by decide +kernel
theorem dL_bench_10 : decode cL_bench 10 = .ok (.newarray .long, 2) := by decide +kernel
theorem dL_bench_12 : decode cL_bench 12 = .ok (.astore_n 3, 1) := by decide +kernel
theorem dL_bench_13 : decode cL_bench 13 = .ok (.bipush 33, 2) := by decide +kernel
theorem dL_bench_15 : decode cL_bench 15 = .ok (.newarray .long, 2) := by decide +kernel
theorem dL_bench_17 : decode cL_bench 17 = .ok (.astore 4, 2) := by decide +kernel
theorem dL_bench_19 : decode cL_bench 19 = .ok (.bipush 60, 2) := by decide +kernel
theorem dL_bench_21 : decode cL_bench 21 = .ok (.newarray .long, 2) := by decide +kernel
theorem dL_bench_23 : decode cL_bench 23 = .ok (.astore 5, 2) := by decide +kernel
theorem dL_bench_25 : decode cL_bench 25 = .ok (.bipush 6, 2) := by decide +kernel
theorem dL_bench_27 : decode cL_bench 27 = .ok (.newarray .int, 2) := by decide +kernel
theorem dL_bench_29 : decode cL_bench 29 = .ok (.astore 6, 2) := by decide +kernel
theorem dL_bench_31 : decode cL_bench 31 = .ok (.iconst 0, 1) := by decide +kernel
theorem dL_bench_32 : decode cL_bench 32 = .ok (.istore 7, 2) := by decide +kernel
theorem dL_bench_34 : decode cL_bench 34 = .ok (.iconst 0, 1) := by decide +kernel
theorem dL_bench_35 : decode cL_bench 35 = .ok (.istore 8, 2) := by decide +kernel
theorem dL_bench_37 : decode cL_bench 37 = .ok (.iload 8, 2) := by decide +kernel
theorem dL_bench_39 : decode cL_bench 39 = .ok (.iconst 3, 1) := by decide +kernel
theorem dL_bench_40 : decode cL_bench 40 = .ok (.if_icmp .ge 44, 3) := by decide +kernel
theorem dL_bench_43 : decode cL_bench 43 = .ok (.aload_n 3, 1) := by decide +kernel
theorem dL_bench_44 : decode cL_bench 44 = .ok (.bipush 20, 2) := by decide +kernel
theorem dL_bench_46 : decode cL_bench 46 = .ok (.iload 8, 2) := by decide +kernel
theorem dL_bench_48 : decode cL_bench 48 = .ok (.imul, 1) := by decide +kernel
theorem dL_bench_49 : decode cL_bench 49 = .ok (.ldc2_w 176, 3) := by decide +kernel
theorem dL_bench_52 : decode cL_bench 52 = .ok (.lastore, 1) := by decide +kernel
theorem dL_bench_53 : decode cL_bench 53 = .ok (.aload_n 3, 1) := by decide +kernel
theorem dL_bench_54 : decode cL_bench 54 = .ok (.bipush 20, 2) := by decide +kernel
theorem dL_bench_56 : decode cL_bench 56 = .ok (.iload 8, 2) := by decide +kernel
theorem dL_bench_58 : decode cL_bench 58 = .ok (.imul, 1) := by decide +kernel
theorem dL_bench_59 : decode cL_bench 59 = .ok (.iconst 2, 1) := by decide +kernel
theorem dL_bench_60 : decode cL_bench 60 = .ok (.iadd, 1) := by decide +kernel
theorem dL_bench_61 : decode cL_bench 61 = .ok (.ldc2_w 178, 3) := by decide +kernel
theorem dL_bench_64 : decode cL_bench 64 = .ok (.lastore, 1) := by decide +kernel
theorem dL_bench_65 : decode cL_bench 65 = .ok (.aload_n 3, 1) := by decide +kernel
theorem dL_bench_66 : decode cL_bench 66 = .ok (.bipush 20, 2) := by decide +kernel
theorem dL_bench_68 : decode cL_bench 68 = .ok (.iload 8, 2) := by decide +kernel
theorem dL_bench_70 : decode cL_bench 70 = .ok (.imul, 1) := by decide +kernel
theorem dL_bench_71 : decode cL_bench 71 = .ok (.bipush 6, 2) := by decide +kernel
theorem dL_bench_73 : decode cL_bench 73 = .ok (.iadd, 1) := by decide +kernel
theorem dL_bench_74 : decode cL_bench 74 = .ok (.ldc2_w 26, 3) := by decide +kernel
theorem dL_bench_77 : decode cL_bench 77 = .ok (.lastore, 1) := by decide +kernel
theorem dL_bench_78 : decode cL_bench 78 = .ok (.iinc 8 1, 3) := by decide +kernel
theorem dL_bench_81 : decode cL_bench 81 = .ok (.goto (-44), 3) := by decide +kernel
theorem dL_bench_84 : decode cL_bench 84 = .ok (.iconst 0, 1) := by decide +kernel
theorem dL_bench_85 : decode cL_bench 85 = .ok (.istore 8, 2) := by decide +kernel
theorem dL_bench_87 : decode cL_bench 87 = .ok (.iload 8, 2) := by decide +kernel
theorem dL_bench_89 : decode cL_bench 89 = .ok (.bipush 44, 2) := by decide +kernel
theorem dL_bench_91 : decode cL_bench 91 = .ok (.if_icmp .ge 151, 3) := by decide +kernel
theorem dL_bench_94 : decode cL_bench 94 = .ok (.aload_n 0, 1) := by decide +kernel
theorem dL_bench_95 : decode cL_bench 95 = .ok (.iload_n 1, 1) := by decide +kernel
