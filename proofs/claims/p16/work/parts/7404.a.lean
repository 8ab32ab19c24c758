theorem da9_dL_law_900 : (decode cL_law 900 = .ok (.aload_n 1, 1)) ∧ (decode cL_law 901 = .ok (.aload_n 0, 1)) ∧ (decode cL_law 902 = .ok (.iload_n 3, 1)) ∧ (decode cL_law 903 = .ok (.iconst 1, 1)) ∧ (decode cL_law 904 = .ok (.iadd, 1)) ∧ (decode cL_law 905 = .ok (.iaload, 1)) ∧ (decode cL_law 906 = .ok (.invokevirtual 146, 3)) ∧ (decode cL_law 909 = .ok (.pop, 1)) ∧ (decode cL_law 910 = .ok (.aload_n 2, 1)) ∧ (decode cL_law 911 = .ok (.aload_n 0, 1)) ∧ (decode cL_law 912 = .ok (.iload_n 3, 1)) ∧ (decode cL_law 913 = .ok (.iconst 1, 1)) ∧ (decode cL_law 914 = .ok (.iadd, 1)) ∧ (decode cL_law 915 = .ok (.iaload, 1)) ∧ (decode cL_law 916 = .ok (.invokevirtual 149, 3)) ∧ (decode cL_law 919 = .ok (.pop, 1)) := by decide +kernel
theorem dL_law_900 : decode cL_law 900 = .ok (.aload_n 1, 1) := da9_dL_law_900.1
theorem dL_law_901 : decode cL_law 901 = .ok (.aload_n 0, 1) := da9_dL_law_900.2.1
theorem dL_law_902 : decode cL_law 902 = .ok (.iload_n 3, 1) := da9_dL_law_900.2.2.1
theorem dL_law_903 : decode cL_law 903 = .ok (.iconst 1, 1) := da9_dL_law_900.2.2.2.1
theorem dL_law_904 : decode cL_law 904 = .ok (.iadd, 1) := da9_dL_law_900.2.2.2.2.1
theorem dL_law_905 : decode cL_law 905 = .ok (.iaload, 1) := da9_dL_law_900.2.2.2.2.2.1
theorem dL_law_906 : decode cL_law 906 = .ok (.invokevirtual 146, 3) := da9_dL_law_900.2.2.2.2.2.2.1
theorem dL_law_909 : decode cL_law 909 = .ok (.pop, 1) := da9_dL_law_900.2.2.2.2.2.2.2.1
theorem dL_law_910 : decode cL_law 910 = .ok (.aload_n 2, 1) := da9_dL_law_900.2.2.2.2.2.2.2.2.1
theorem dL_law_911 : decode cL_law 911 = .ok (.aload_n 0, 1) := da9_dL_law_900.2.2.2.2.2.2.2.2.2.1
theorem dL_law_912 : decode cL_law 912 = .ok (.iload_n 3, 1) := da9_dL_law_900.2.2.2.2.2.2.2.2.2.2.1
theorem dL_law_913 : decode cL_law 913 = .ok (.iconst 1, 1) := da9_dL_law_900.2.2.2.2.2.2.2.2.2.2.2.1
theorem dL_law_914 : decode cL_law 914 = .ok (.iadd, 1) := da9_dL_law_900.2.2.2.2.2.2.2.2.2.2.2.2.1
theorem dL_law_915 : decode cL_law 915 = .ok (.iaload, 1) := da9_dL_law_900.2.2.2.2.2.2.2.2.2.2.2.2.2.1
theorem dL_law_916 : decode cL_law 916 = .ok (.invokevirtual 149, 3) := da9_dL_law_900.2.2.2.2.2.2.2.2.2.2.2.2.2.2.1
theorem dL_law_919 : decode cL_law 919 = .ok (.pop, 1) := da9_dL_law_900.2.2.2.2.2.2.2.2.2.2.2.2.2.2.2
theorem da9_dL_law_920 : (decode cL_law 920 = .ok (.goto 151, 3)) ∧ (decode cL_law 923 = .ok (.aload_n 1, 1)) ∧ (decode cL_law 924 = .ok (.aload_n 0, 1)) ∧ (decode cL_law 925 = .ok (.iload_n 3, 1)) ∧ (decode cL_law 926 = .ok (.iconst 1, 1)) ∧ (decode cL_law 927 = .ok (.iadd, 1)) ∧ (decode cL_law 928 = .ok (.iaload, 1)) ∧ (decode cL_law 929 = .ok (.aload_n 0, 1)) ∧ (decode cL_law 930 = .ok (.iload_n 3, 1)) ∧ (decode cL_law 931 = .ok (.iconst 2, 1)) ∧ (decode cL_law 932 = .ok (.iadd, 1)) ∧ (decode cL_law 933 = .ok (.iaload, 1)) ∧ (decode cL_law 934 = .ok (.invokevirtual 150, 3)) ∧ (decode cL_law 937 = .ok (.pop, 1)) ∧ (decode cL_law 938 = .ok (.aload_n 2, 1)) ∧ (decode cL_law 939 = .ok (.aload_n 0, 1)) := by decide +kernel
theorem dL_law_920 : decode cL_law 920 = .ok (.goto 151, 3) := da9_dL_law_920.1
theorem dL_law_923 : decode cL_law 923 = .ok (.aload_n 1, 1) := da9_dL_law_920.2.1
theorem dL_law_924 : decode cL_law 924 = .ok (.aload_n 0, 1) := da9_dL_law_920.2.2.1
theorem dL_law_925 : decode cL_law 925 = .ok (.iload_n 3, 1) := da9_dL_law_920.2.2.2.1
theorem dL_law_926 : decode cL_law 926 = .ok (.iconst 1, 1) := da9_dL_law_920.2.2.2.2.1
theorem dL_law_927 : decode cL_law 927 = .ok (.iadd, 1) := da9_dL_law_920.2.2.2.2.2.1
theorem dL_law_928 : decode cL_law 928 = .ok (.iaload, 1) := da9_dL_law_920.2.2.2.2.2.2.1
theorem dL_law_929 : decode cL_law 929 = .ok (.aload_n 0, 1) := da9_dL_law_920.2.2.2.2.2.2.2.1
theorem dL_law_930 : decode cL_law 930 = .ok (.iload_n 3, 1) := da9_dL_law_920.2.2.2.2.2.2.2.2.1
theorem dL_law_931 : decode cL_law 931 = .ok (.iconst 2, 1) := da9_dL_law_920.2.2.2.2.2.2.2.2.2.1
theorem dL_law_932 : decode cL_law 932 = .ok (.iadd, 1) := da9_dL_law_920.2.2.2.2.2.2.2.2.2.2.1
theorem dL_law_933 : decode cL_law 933 = .ok (.iaload, 1) := da9_dL_law_920.2.2.2.2.2.2.2.2.2.2.2.1
theorem dL_law_934 : decode cL_law 934 = .ok (.invokevirtual 150, 3) := da9_dL_law_920.2.2.2.2.2.2.2.2.2.2.2.2.1
theorem dL_law_937 : decode cL_law 937 = .ok (.pop, 1) := da9_dL_law_920.2.2.2.2.2.2.2.2.2.2.2.2.2.1
theorem dL_law_938 : decode cL_law 938 = .ok (.aload_n 2, 1) := da9_dL_law_920.2.2.2.2.2.2.2.2.2.2.2.2.2.2.1
theorem dL_law_939 : decode cL_law 939 = .ok (.aload_n 0, 1) := da9_dL_law_920.2.2.2.2.2.2.2.2.2.2.2.2.2.2.2
theorem da9_dL_law_940 : (decode cL_law 940 = .ok (.iload_n 3, 1)) ∧ (decode cL_law 941 = .ok (.iconst 1, 1)) ∧ (decode cL_law 942 = .ok (.iadd, 1)) ∧ (decode cL_law 943 = .ok (.iaload, 1)) ∧ (decode cL_law 944 = .ok (.aload_n 0, 1)) ∧ (decode cL_law 945 = .ok (.iload_n 3, 1)) ∧ (decode cL_law 946 = .ok (.iconst 2, 1)) ∧ (decode cL_law 947 = .ok (.iadd, 1)) ∧ (decode cL_law 948 = .ok (.iaload, 1)) ∧ (decode cL_law 949 = .ok (.invokevirtual 153, 3)) ∧ (decode cL_law 952 = .ok (.pop, 1)) ∧ (decode cL_law 953 = .ok (.goto 118, 3)) ∧ (decode cL_law 956 = .ok (.aload_n 1, 1)) ∧ (decode cL_law 957 = .ok (.aload_n 0, 1)) ∧ (decode cL_law 958 = .ok (.iload_n 3, 1)) ∧ (decode cL_law 959 = .ok (.iconst 1, 1)) := by decide +kernel
theorem dL_law_940 : decode cL_law 940 = .ok (.iload_n 3, 1) := da9_dL_law_940.1
theorem dL_law_941 : decode cL_law 941 = .ok (.iconst 1, 1) := da9_dL_law_940.2.1
theorem dL_law_942 : decode cL_law 942 = .ok (.iadd, 1) := da9_dL_law_940.2.2.1
theorem dL_law_943 : decode cL_law 943 = .ok (.iaload, 1) := da9_dL_law_940.2.2.2.1
theorem dL_law_944 : decode cL_law 944 = .ok (.aload_n 0, 1) := da9_dL_law_940.2.2.2.2.1
theorem dL_law_945 : decode cL_law 945 = .ok (.iload_n 3, 1) := da9_dL_law_940.2.2.2.2.2.1
theorem dL_law_946 : decode cL_law 946 = .ok (.iconst 2, 1) := da9_dL_law_940.2.2.2.2.2.2.1
theorem dL_law_947 : decode cL_law 947 = .ok (.iadd, 1) := da9_dL_law_940.2.2.2.2.2.2.2.1
theorem dL_law_948 : decode cL_law 948 = .ok (.iaload, 1) := da9_dL_law_940.2.2.2.2.2.2.2.2.1
theorem dL_law_949 : decode cL_law 949 = .ok (.invokevirtual 153, 3) := da9_dL_law_940.2.2.2.2.2.2.2.2.2.1
theorem dL_law_952 : decode cL_law 952 = .ok (.pop, 1) := da9_dL_law_940.2.2.2.2.2.2.2.2.2.2.1
theorem dL_law_953 : decode cL_law 953 = .ok (.goto 118, 3) := da9_dL_law_940.2.2.2.2.2.2.2.2.2.2.2.1
theorem dL_law_956 : decode cL_law 956 = .ok (.aload_n 1, 1) := da9_dL_law_940.2.2.2.2.2.2.2.2.2.2.2.2.1
theorem dL_law_957 : decode cL_law 957 = .ok (.aload_n 0, 1) := da9_dL_law_940.2.2.2.2.2.2.2.2.2.2.2.2.2.1
theorem dL_law_958 : decode cL_law 958 = .ok (.iload_n 3, 1) := da9_dL_law_940.2.2.2.2.2.2.2.2.2.2.2.2.2.2.1
theorem dL_law_959 : decode cL_law 959 = .ok (.iconst 1, 1) := da9_dL_law_940.2.2.2.2.2.2.2.2.2.2.2.2.2.2.2
theorem da9_dL_law_960 : (decode cL_law 960 = .ok (.iadd, 1)) ∧ (decode cL_law 961 = .ok (.iaload, 1)) ∧ (decode cL_law 962 = .ok (.aload_n 0, 1)) ∧ (decode cL_law 963 = .ok (.iload_n 3, 1)) ∧ (decode cL_law 964 = .ok (.iconst 2, 1)) ∧ (decode cL_law 965 = .ok (.iadd, 1)) ∧ (decode cL_law 966 = .ok (.iaload, 1)) ∧ (decode cL_law 967 = .ok (.invokevirtual 154, 3)) ∧ (decode cL_law 970 = .ok (.pop, 1)) ∧ (decode cL_law 971 = .ok (.aload_n 2, 1)) ∧ (decode cL_law 972 = .ok (.aload_n 0, 1)) ∧ (decode cL_law 973 = .ok (.iload_n 3, 1)) ∧ (decode cL_law 974 = .ok (.iconst 1, 1)) ∧ (decode cL_law 975 = .ok (.iadd, 1)) ∧ (decode cL_law 976 = .ok (.iaload, 1)) ∧ (decode cL_law 977 = .ok (.aload_n 0, 1)) := by decide +kernel
theorem dL_law_960 : decode cL_law 960 = .ok (.iadd, 1) := da9_dL_law_960.1
theorem dL_law_961 : decode cL_law 961 = .ok (.iaload, 1) := da9_dL_law_960.2.1
theorem dL_law_962 : decode cL_law 962 = .ok (.aload_n 0, 1) := da9_dL_law_960.2.2.1
theorem dL_law_963 : decode cL_law 963 = .ok (.iload_n 3, 1) := da9_dL_law_960.2.2.2.1
theorem dL_law_964 : decode cL_law 964 = .ok (.iconst 2, 1) := da9_dL_law_960.2.2.2.2.1
theorem dL_law_965 : decode cL_law 965 = .ok (.iadd, 1) := da9_dL_law_960.2.2.2.2.2.1
theorem dL_law_966 : decode cL_law 966 = .ok (.iaload, 1) := da9_dL_law_960.2.2.2.2.2.2.1
theorem dL_law_967 : decode cL_law 967 = .ok (.invokevirtual 154, 3) := da9_dL_law_960.2.2.2.2.2.2.2.1
theorem dL_law_970 : decode cL_law 970 = .ok (.pop, 1) := da9_dL_law_960.2.2.2.2.2.2.2.2.1
theorem dL_law_971 : decode cL_law 971 = .ok (.aload_n 2, 1) := da9_dL_law_960.2.2.2.2.2.2.2.2.2.1
theorem dL_law_972 : decode cL_law 972 = .ok (.aload_n 0, 1) := da9_dL_law_960.2.2.2.2.2.2.2.2.2.2.1
theorem dL_law_973 : decode cL_law 973 = .ok (.iload_n 3, 1) := da9_dL_law_960.2.2.2.2.2.2.2.2.2.2.2.1
theorem dL_law_974 : decode cL_law 974 = .ok (.iconst 1, 1) := da9_dL_law_960.2.2.2.2.2.2.2.2.2.2.2.2.1
theorem dL_law_975 : decode cL_law 975 = .ok (.iadd, 1) := da9_dL_law_960.2.2.2.2.2.2.2.2.2.2.2.2.2.1
theorem dL_law_976 : decode cL_law 976 = .ok (.iaload, 1) := da9_dL_law_960.2.2.2.2.2.2.2.2.2.2.2.2.2.2.1
theorem dL_law_977 : decode cL_law 977 = .ok (.aload_n 0, 1) := da9_dL_law_960.2.2.2.2.2.2.2.2.2.2.2.2.2.2.2
theorem da9_dL_law_978 : (decode cL_law 978 = .ok (.iload_n 3, 1)) ∧ (decode cL_law 979 = .ok (.iconst 2, 1)) ∧ (decode cL_law 980 = .ok (.iadd, 1)) ∧ (decode cL_law 981 = .ok (.iaload, 1)) ∧ (decode cL_law 982 = .ok (.invokevirtual 157, 3)) ∧ (decode cL_law 985 = .ok (.pop, 1)) ∧ (decode cL_law 986 = .ok (.goto 85, 3)) ∧ (decode cL_law 989 = .ok (.aload_n 1, 1)) ∧ (decode cL_law 990 = .ok (.aload_n 0, 1)) ∧ (decode cL_law 991 = .ok (.iload_n 3, 1)) ∧ (decode cL_law 992 = .ok (.iconst 1, 1)) ∧ (decode cL_law 993 = .ok (.iadd, 1)) ∧ (decode cL_law 994 = .ok (.iaload, 1)) ∧ (decode cL_law 995 = .ok (.invokevirtual 158, 3)) ∧ (decode cL_law 998 = .ok (.pop, 1)) ∧ (decode cL_law 999 = .ok (.aload_n 2, 1)) := by decide +kernel
theorem dL_law_978 : decode cL_law 978 = .ok (.iload_n 3, 1) := da9_dL_law_978.1
theorem dL_law_979 : decode cL_law 979 = .ok (.iconst 2, 1) := da9_dL_law_978.2.1
theorem dL_law_980 : decode cL_law 980 = .ok (.iadd, 1) := da9_dL_law_978.2.2.1
theorem dL_law_981 : decode cL_law 981 = .ok (.iaload, 1) := da9_dL_law_978.2.2.2.1
theorem dL_law_982 : decode cL_law 982 = .ok (.invokevirtual 157, 3) := da9_dL_law_978.2.2.2.2.1
theorem dL_law_985 : decode cL_law 985 = .ok (.pop, 1) := da9_dL_law_978.2.2.2.2.2.1
theorem dL_law_986 : decode cL_law 986 = .ok (.goto 85, 3) := da9_dL_law_978.2.2.2.2.2.2.1
theorem dL_law_989 : decode cL_law 989 = .ok (.aload_n 1, 1) := da9_dL_law_978.2.2.2.2.2.2.2.1
theorem dL_law_990 : decode cL_law 990 = .ok (.aload_n 0, 1) := da9_dL_law_978.2.2.2.2.2.2.2.2.1
theorem dL_law_991 : decode cL_law 991 = .ok (.iload_n 3, 1) := da9_dL_law_978.2.2.2.2.2.2.2.2.2.1
theorem dL_law_992 : decode cL_law 992 = .ok (.iconst 1, 1) := da9_dL_law_978.2.2.2.2.2.2.2.2.2.2.1
theorem dL_law_993 : decode cL_law 993 = .ok (.iadd, 1) := da9_dL_law_978.2.2.2.2.2.2.2.2.2.2.2.1
theorem dL_law_994 : decode cL_law 994 = .ok (.iaload, 1) := da9_dL_law_978.2.2.2.2.2.2.2.2.2.2.2.2.1
theorem dL_law_995 : decode cL_law 995 = .ok (.invokevirtual 158, 3) := da9_dL_law_978.2.2.2.2.2.2.2.2.2.2.2.2.2.1
theorem dL_law_998 : decode cL_law 998 = .ok (.pop, 1) := da9_dL_law_978.2.2.2.2.2.2.2.2.2.2.2.2.2.2.1
theorem dL_law_999 : decode cL_law 999 = .ok (.aload_n 2, 1) := da9_dL_law_978.2.2.2.2.2.2.2.2.2.2.2.2.2.2.2
theorem da9_dL_law_1000 : (decode cL_law 1000 = .ok (.aload_n 0, 1)) ∧ (decode cL_law 1001 = .ok (.iload_n 3, 1)) ∧ (decode cL_law 1002 = .ok (.iconst 1, 1)) ∧ (decode cL_law 1003 = .ok (.iadd, 1)) ∧ (decode cL_law 1004 = .ok (.iaload, 1)) ∧ (decode cL_law 1005 = .ok (.invokevirtual 161, 3)) ∧ (decode cL_law 1008 = .ok (.pop, 1)) ∧ (decode cL_law 1009 = .ok (.goto 62, 3)) ∧ (decode cL_law 1012 = .ok (.aload_n 1, 1)) ∧ (decode cL_law 1013 = .ok (.aload_n 0, 1)) ∧ (decode cL_law 1014 = .ok (.iload_n 3, 1)) ∧ (decode cL_law 1015 = .ok (.iconst 1, 1)) ∧ (decode cL_law 1016 = .ok (.iadd, 1)) ∧ (decode cL_law 1017 = .ok (.iaload, 1)) ∧ (decode cL_law 1018 = .ok (.invokevirtual 162, 3)) ∧ (decode cL_law 1021 = .ok (.pop, 1)) := by decide +kernel
theorem dL_law_1000 : decode cL_law 1000 = .ok (.aload_n 0, 1) := da9_dL_law_1000.1
theorem dL_law_1001 : decode cL_law 1001 = .ok (.iload_n 3, 1) := da9_dL_law_1000.2.1
theorem dL_law_1002 : decode cL_law 1002 = .ok (.iconst 1, 1) := da9_dL_law_1000.2.2.1
theorem dL_law_1003 : decode cL_law 1003 = .ok (.iadd, 1) := da9_dL_law_1000.2.2.2.1
theorem dL_law_1004 : decode cL_law 1004 = .ok (.iaload, 1) := da9_dL_law_1000.2.2.2.2.1
theorem dL_law_1005 : decode cL_law 1005 = .ok (.invokevirtual 161, 3) := da9_dL_law_1000.2.2.2.2.2.1
theorem dL_law_1008 : decode cL_law 1008 = .ok (.pop, 1) := da9_dL_law_1000.2.2.2.2.2.2.1
theorem dL_law_1009 : decode cL_law 1009 = .ok (.goto 62, 3) := da9_dL_law_1000.2.2.2.2.2.2.2.1
theorem dL_law_1012 : decode cL_law 1012 = .ok (.aload_n 1, 1) := da9_dL_law_1000.2.2.2.2.2.2.2.2.1
theorem dL_law_1013 : decode cL_law 1013 = .ok (.aload_n 0, 1) := da9_dL_law_1000.2.2.2.2.2.2.2.2.2.1
theorem dL_law_1014 : decode cL_law 1014 = .ok (.iload_n 3, 1) := da9_dL_law_1000.2.2.2.2.2.2.2.2.2.2.1
theorem dL_law_1015 : decode cL_law 1015 = .ok (.iconst 1, 1) := da9_dL_law_1000.2.2.2.2.2.2.2.2.2.2.2.1
theorem dL_law_1016 : decode cL_law 1016 = .ok (.iadd, 1) := da9_dL_law_1000.2.2.2.2.2.2.2.2.2.2.2.2.1
theorem dL_law_1017 : decode cL_law 1017 = .ok (.iaload, 1) := da9_dL_law_1000.2.2.2.2.2.2.2.2.2.2.2.2.2.1
theorem dL_law_1018 : decode cL_law 1018 = .ok (.invokevirtual 162, 3) := da9_dL_law_1000.2.2.2.2.2.2.2.2.2.2.2.2.2.2.1
theorem dL_law_1021 : decode cL_law 1021 = .ok (.pop, 1) := da9_dL_law_1000.2.2.2.2.2.2.2.2.2.2.2.2.2.2.2
theorem da9_dL_law_1022 : (decode cL_law 1022 = .ok (.aload_n 2, 1)) ∧ (decode cL_law 1023 = .ok (.aload_n 0, 1)) ∧ (decode cL_law 1024 = .ok (.iload_n 3, 1)) ∧ (decode cL_law 1025 = .ok (.iconst 1, 1)) ∧ (decode cL_law 1026 = .ok (.iadd, 1)) ∧ (decode cL_law 1027 = .ok (.iaload, 1)) ∧ (decode cL_law 1028 = .ok (.invokevirtual 165, 3)) ∧ (decode cL_law 1031 = .ok (.pop, 1)) ∧ (decode cL_law 1032 = .ok (.goto 39, 3)) ∧ (decode cL_law 1035 = .ok (.aload_n 1, 1)) ∧ (decode cL_law 1036 = .ok (.aload_n 0, 1)) ∧ (decode cL_law 1037 = .ok (.iload_n 3, 1)) ∧ (decode cL_law 1038 = .ok (.iconst 1, 1)) ∧ (decode cL_law 1039 = .ok (.iadd, 1)) ∧ (decode cL_law 1040 = .ok (.iaload, 1)) ∧ (decode cL_law 1041 = .ok (.invokevirtual 166, 3)) := by decide +kernel
theorem dL_law_1022 : decode cL_law 1022 = .ok (.aload_n 2, 1) := da9_dL_law_1022.1
theorem dL_law_1023 : decode cL_law 1023 = .ok (.aload_n 0, 1) := da9_dL_law_1022.2.1
theorem dL_law_1024 : decode cL_law 1024 = .ok (.iload_n 3, 1) := da9_dL_law_1022.2.2.1
theorem dL_law_1025 : decode cL_law 1025 = .ok (.iconst 1, 1) := da9_dL_law_1022.2.2.2.1
theorem dL_law_1026 : decode cL_law 1026 = .ok (.iadd, 1) := da9_dL_law_1022.2.2.2.2.1
theorem dL_law_1027 : decode cL_law 1027 = .ok (.iaload, 1) := da9_dL_law_1022.2.2.2.2.2.1
theorem dL_law_1028 : decode cL_law 1028 = .ok (.invokevirtual 165, 3) := da9_dL_law_1022.2.2.2.2.2.2.1
theorem dL_law_1031 : decode cL_law 1031 = .ok (.pop, 1) := da9_dL_law_1022.2.2.2.2.2.2.2.1
theorem dL_law_1032 : decode cL_law 1032 = .ok (.goto 39, 3) := da9_dL_law_1022.2.2.2.2.2.2.2.2.1
theorem dL_law_1035 : decode cL_law 1035 = .ok (.aload_n 1, 1) := da9_dL_law_1022.2.2.2.2.2.2.2.2.2.1
theorem dL_law_1036 : decode cL_law 1036 = .ok (.aload_n 0, 1) := da9_dL_law_1022.2.2.2.2.2.2.2.2.2.2.1
theorem dL_law_1037 : decode cL_law 1037 = .ok (.iload_n 3, 1) := da9_dL_law_1022.2.2.2.2.2.2.2.2.2.2.2.1
theorem dL_law_1038 : decode cL_law 1038 = .ok (.iconst 1, 1) := da9_dL_law_1022.2.2.2.2.2.2.2.2.2.2.2.2.1
theorem dL_law_1039 : decode cL_law 1039 = .ok (.iadd, 1) := da9_dL_law_1022.2.2.2.2.2.2.2.2.2.2.2.2.2.1
theorem dL_law_1040 : decode cL_law 1040 = .ok (.iaload, 1) := da9_dL_law_1022.2.2.2.2.2.2.2.2.2.2.2.2.2.2.1
theorem dL_law_1041 : decode cL_law 1041 = .ok (.invokevirtual 166, 3) := da9_dL_law_1022.2.2.2.2.2.2.2.2.2.2.2.2.2.2.2
theorem da9_dL_law_1044 : (decode cL_law 1044 = .ok (.pop, 1)) ∧ (decode cL_law 1045 = .ok (.aload_n 2, 1)) ∧ (decode cL_law 1046 = .ok (.aload_n 0, 1)) ∧ (decode cL_law 1047 = .ok (.iload_n 3, 1)) ∧ (decode cL_law 1048 = .ok (.iconst 1, 1)) ∧ (decode cL_law 1049 = .ok (.iadd, 1)) ∧ (decode cL_law 1050 = .ok (.iaload, 1)) ∧ (decode cL_law 1051 = .ok (.invokevirtual 169, 3)) ∧ (decode cL_law 1054 = .ok (.pop, 1)) ∧ (decode cL_law 1055 = .ok (.goto 16, 3)) ∧ (decode cL_law 1058 = .ok (.aload_n 1, 1)) ∧ (decode cL_law 1059 = .ok (.invokevirtual 170, 3)) ∧ (decode cL_law 1062 = .ok (.pop, 1)) ∧ (decode cL_law 1063 = .ok (.aload_n 2, 1)) ∧ (decode cL_law 1064 = .ok (.invokevirtual 173, 3)) ∧ (decode cL_law 1067 = .ok (.pop, 1)) := by decide +kernel
theorem dL_law_1044 : decode cL_law 1044 = .ok (.pop, 1) := da9_dL_law_1044.1
theorem dL_law_1045 : decode cL_law 1045 = .ok (.aload_n 2, 1) := da9_dL_law_1044.2.1
theorem dL_law_1046 : decode cL_law 1046 = .ok (.aload_n 0, 1) := da9_dL_law_1044.2.2.1
theorem dL_law_1047 : decode cL_law 1047 = .ok (.iload_n 3, 1) := da9_dL_law_1044.2.2.2.1
theorem dL_law_1048 : decode cL_law 1048 = .ok (.iconst 1, 1) := da9_dL_law_1044.2.2.2.2.1
theorem dL_law_1049 : decode cL_law 1049 = .ok (.iadd, 1) := da9_dL_law_1044.2.2.2.2.2.1
theorem dL_law_1050 : decode cL_law 1050 = .ok (.iaload, 1) := da9_dL_law_1044.2.2.2.2.2.2.1
theorem dL_law_1051 : decode cL_law 1051 = .ok (.invokevirtual 169, 3) := da9_dL_law_1044.2.2.2.2.2.2.2.1
theorem dL_law_1054 : decode cL_law 1054 = .ok (.pop, 1) := da9_dL_law_1044.2.2.2.2.2.2.2.2.1
theorem dL_law_1055 : decode cL_law 1055 = .ok (.goto 16, 3) := da9_dL_law_1044.2.2.2.2.2.2.2.2.2.1
theorem dL_law_1058 : decode cL_law 1058 = .ok (.aload_n 1, 1) := da9_dL_law_1044.2.2.2.2.2.2.2.2.2.2.1
theorem dL_law_1059 : decode cL_law 1059 = .ok (.invokevirtual 170, 3) := da9_dL_law_1044.2.2.2.2.2.2.2.2.2.2.2.1
theorem dL_law_1062 : decode cL_law 1062 = .ok (.pop, 1) := da9_dL_law_1044.2.2.2.2.2.2.2.2.2.2.2.2.1
theorem dL_law_1063 : decode cL_law 1063 = .ok (.aload_n 2, 1) := da9_dL_law_1044.2.2.2.2.2.2.2.2.2.2.2.2.2.1
theorem dL_law_1064 : decode cL_law 1064 = .ok (.invokevirtual 173, 3) := da9_dL_law_1044.2.2.2.2.2.2.2.2.2.2.2.2.2.2.1
theorem dL_law_1067 : decode cL_law 1067 = .ok (.pop, 1) := da9_dL_law_1044.2.2.2.2.2.2.2.2.2.2.2.2.2.2.2
theorem dL_law_1068 : decode cL_law 1068 = .ok (.goto 3, 3) := by decide +kernel
