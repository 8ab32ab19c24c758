theorem da9_dL_law_18 : (decode cL_law 18 = .ok (.iload_n 3, 1)) ∧ (decode cL_law 19 = .ok (.aload_n 0, 1)) ∧ (decode cL_law 20 = .ok (.arraylength, 1)) ∧ (decode cL_law 21 = .ok (.bipush 6, 2)) ∧ (decode cL_law 23 = .ok (.isub, 1)) ∧ (decode cL_law 24 = .ok (.if_icmp .gt 1053, 3)) ∧ (decode cL_law 27 = .ok (.aload_n 0, 1)) ∧ (decode cL_law 28 = .ok (.iload_n 3, 1)) ∧ (decode cL_law 29 = .ok (.iaload, 1)) ∧ (decode cL_law 30 = .ok (.bipush 63, 2)) ∧ (decode cL_law 32 = .ok (.iand, 1)) ∧ (decode cL_law 33 = .ok (.tableswitch 1038 0 38 #[171, 204, 237, 270, 303, 366, 389, 402, 415, 428, 441, 454, 467, 490, 513, 536, 559, 572, 585, 608, 621, 634, 657, 670, 683, 706, 729, 752, 785, 798, 811, 834, 867, 890, 923, 956, 979, 1002, 1025], 171)) ∧ (decode cL_law 1071 = .ok (.iinc 3 6, 3)) ∧ (decode cL_law 1074 = .ok (.goto (-1056), 3)) ∧ (decode cL_law 1077 = .ok (.iconst 1, 1)) ∧ (decode cL_law 1078 = .ok (.ireturn, 1)) := by decide +kernel
theorem dL_law_18 : decode cL_law 18 = .ok (.iload_n 3, 1) := da9_dL_law_18.1
theorem dL_law_19 : decode cL_law 19 = .ok (.aload_n 0, 1) := da9_dL_law_18.2.1
theorem dL_law_20 : decode cL_law 20 = .ok (.arraylength, 1) := da9_dL_law_18.2.2.1
theorem dL_law_21 : decode cL_law 21 = .ok (.bipush 6, 2) := da9_dL_law_18.2.2.2.1
theorem dL_law_23 : decode cL_law 23 = .ok (.isub, 1) := da9_dL_law_18.2.2.2.2.1
theorem dL_law_24 : decode cL_law 24 = .ok (.if_icmp .gt 1053, 3) := da9_dL_law_18.2.2.2.2.2.1
theorem dL_law_27 : decode cL_law 27 = .ok (.aload_n 0, 1) := da9_dL_law_18.2.2.2.2.2.2.1
theorem dL_law_28 : decode cL_law 28 = .ok (.iload_n 3, 1) := da9_dL_law_18.2.2.2.2.2.2.2.1
theorem dL_law_29 : decode cL_law 29 = .ok (.iaload, 1) := da9_dL_law_18.2.2.2.2.2.2.2.2.1
theorem dL_law_30 : decode cL_law 30 = .ok (.bipush 63, 2) := da9_dL_law_18.2.2.2.2.2.2.2.2.2.1
theorem dL_law_32 : decode cL_law 32 = .ok (.iand, 1) := da9_dL_law_18.2.2.2.2.2.2.2.2.2.2.1
theorem dL_law_33 : decode cL_law 33 = .ok (.tableswitch 1038 0 38 #[171, 204, 237, 270, 303, 366, 389, 402, 415, 428, 441, 454, 467, 490, 513, 536, 559, 572, 585, 608, 621, 634, 657, 670, 683, 706, 729, 752, 785, 798, 811, 834, 867, 890, 923, 956, 979, 1002, 1025], 171) := da9_dL_law_18.2.2.2.2.2.2.2.2.2.2.2.1
theorem dL_law_1071 : decode cL_law 1071 = .ok (.iinc 3 6, 3) := da9_dL_law_18.2.2.2.2.2.2.2.2.2.2.2.2.1
theorem dL_law_1074 : decode cL_law 1074 = .ok (.goto (-1056), 3) := da9_dL_law_18.2.2.2.2.2.2.2.2.2.2.2.2.2.1
theorem dL_law_1077 : decode cL_law 1077 = .ok (.iconst 1, 1) := da9_dL_law_18.2.2.2.2.2.2.2.2.2.2.2.2.2.2.1
theorem dL_law_1078 : decode cL_law 1078 = .ok (.ireturn, 1) := da9_dL_law_18.2.2.2.2.2.2.2.2.2.2.2.2.2.2.2
