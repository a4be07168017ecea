theorem dX10_make_24 : decode cX10_make 24 = .ok (.ireturn, 1) := by decide +kernel
theorem dX10_make_25 : decode cX10_make 25 = .ok (.aload_n 0, 1) := by decide +kernel
theorem dX10_make_26 : decode cX10_make 26 = .ok (.invokevirtual 68, 3) := by decide +kernel
theorem dX10_make_29 : decode cX10_make 29 = .ok (.aload_n 0, 1) := by decide +kernel
theorem dX10_make_30 : decode cX10_make 30 = .ok (.getfield 14, 3) := by decide +kernel
theorem dX10_make_33 : decode cX10_make 33 = .ok (.invokevirtual 71, 3) := by decide +kernel
theorem dX10_make_36 : decode cX10_make 36 = .ok (.aload_n 0, 1) := by decide +kernel
theorem dX10_make_37 : decode cX10_make 37 = .ok (.invokevirtual 74, 3) := by decide +kernel
theorem dX10_make_40 : decode cX10_make 40 = .ok (.iconst 0, 1) := by decide +kernel
theorem dX10_make_41 : decode cX10_make 41 = .ok (.istore_n 1, 1) := by decide +kernel
theorem dX10_make_42 : decode cX10_make 42 = .ok (.iload_n 1, 1) := by decide +kernel
theorem dX10_make_43 : decode cX10_make 43 = .ok (.aload_n 0, 1) := by decide +kernel
theorem dX10_make_44 : decode cX10_make 44 = .ok (.getfield 33, 3) := by decide +kernel
theorem dX10_make_47 : decode cX10_make 47 = .ok (.invokevirtual 77, 3) := by decide +kernel
theorem dX10_make_50 : decode cX10_make 50 = .ok (.if_icmp .ge 20, 3) := by decide +kernel
theorem dX10_make_53 : decode cX10_make 53 = .ok (.aload_n 0, 1) := by decide +kernel
theorem dX10_make_54 : decode cX10_make 54 = .ok (.iload_n 1, 1) := by decide +kernel
theorem dX10_make_55 : decode cX10_make 55 = .ok (.aload_n 0, 1) := by decide +kernel
theorem dX10_make_56 : decode cX10_make 56 = .ok (.getfield 20, 3) := by decide +kernel
theorem dX10_make_59 : decode cX10_make 59 = .ok (.iload_n 1, 1) := by decide +kernel
theorem dX10_make_60 : decode cX10_make 60 = .ok (.iaload, 1) := by decide +kernel
theorem dX10_make_61 : decode cX10_make 61 = .ok (.invokevirtual 80, 3) := by decide +kernel
theorem dX10_make_64 : decode cX10_make 64 = .ok (.iinc 1 1, 3) := by decide +kernel
theorem dX10_make_67 : decode cX10_make 67 = .ok (.goto (-25), 3) := by decide +kernel
theorem dX10_make_70 : decode cX10_make 70 = .ok (.aload_n 0, 1) := by decide +kernel
theorem dX10_make_71 : decode cX10_make 71 = .ok (.invokevirtual 84, 3) := by decide +kernel
theorem dX10_make_74 : decode cX10_make 74 = .ok (.aload_n 0, 1) := by decide +kernel
theorem dX10_make_75 : decode cX10_make 75 = .ok (.getfield 14, 3) := by decide +kernel
theorem dX10_make_78 : decode cX10_make 78 = .ok (.invokevirtual 50, 3) := by decide +kernel
theorem dX10_make_81 : decode cX10_make 81 = .ok (.ireturn, 1) := by decide +kernel
theorem dX10_isPossible_0 : decode cX10_isPossible 0 = .ok (.aload_n 0, 1) := by decide +kernel
theorem dX10_isPossible_1 : decode cX10_isPossible 1 = .ok (.getfield 33, 3) := by decide +kernel
theorem dX10_isPossible_4 : decode cX10_isPossible 4 = .ok (.ldc2_w 87, 3) := by decide +kernel
theorem dX10_isPossible_7 : decode cX10_isPossible 7 = .ok (.invokevirtual 89, 3) := by decide +kernel
theorem dX10_isPossible_10 : decode cX10_isPossible 10 = .ok (.ifCond .eq 74, 3) := by decide +kernel
theorem dX10_isPossible_13 : decode cX10_isPossible 13 = .ok (.aload_n 0, 1) := by decide +kernel
theorem dX10_isPossible_14 : decode cX10_isPossible 14 = .ok (.getfield 33, 3) := by decide +kernel
theorem dX10_isPossible_17 : decode cX10_isPossible 17 = .ok (.ldc2_w 93, 3) := by decide +kernel
theorem dX10_isPossible_20 : decode cX10_isPossible 20 = .ok (.invokevirtual 89, 3) := by decide +kernel
theorem dX10_isPossible_23 : decode cX10_isPossible 23 = .ok (.ifCond .eq 61, 3) := by decide +kernel
theorem dX10_isPossible_26 : decode cX10_isPossible 26 = .ok (.aload_n 0, 1) := by decide +kernel
theorem dX10_isPossible_27 : decode cX10_isPossible 27 = .ok (.getfield 33, 3) := by decide +kernel
theorem dX10_isPossible_30 : decode cX10_isPossible 30 = .ok (.ldc2_w 95, 3) := by decide +kernel
theorem dX10_isPossible_33 : decode cX10_isPossible 33 = .ok (.invokevirtual 89, 3) := by decide +kernel
theorem dX10_isPossible_36 : decode cX10_isPossible 36 = .ok (.ifCond .eq 48, 3) := by decide +kernel
theorem dX10_isPossible_39 : decode cX10_isPossible 39 = .ok (.aload_n 0, 1) := by decide +kernel
theorem dX10_isPossible_40 : decode cX10_isPossible 40 = .ok (.getfield 33, 3) := by decide +kernel
theorem dX10_isPossible_43 : decode cX10_isPossible 43 = .ok (.ldc2_w 97, 3) := by decide +kernel
theorem dX10_isPossible_46 : decode cX10_isPossible 46 = .ok (.invokevirtual 89, 3) := by decide +kernel
theorem dX10_isPossible_49 : decode cX10_isPossible 49 = .ok (.ifCond .eq 35, 3) := by decide +kernel
theorem dX10_isPossible_52 : decode cX10_isPossible 52 = .ok (.aload_n 0, 1) := by decide +kernel
theorem dX10_isPossible_53 : decode cX10_isPossible 53 = .ok (.getfield 33, 3) := by decide +kernel
theorem dX10_isPossible_56 : decode cX10_isPossible 56 = .ok (.ldc2_w 87, 3) := by decide +kernel
theorem dX10_isPossible_59 : decode cX10_isPossible 59 = .ok (.invokevirtual 99, 3) := by decide +kernel
theorem dX10_isPossible_62 : decode cX10_isPossible 62 = .ok (.getfield 103, 3) := by decide +kernel
theorem dX10_isPossible_65 : decode cX10_isPossible 65 = .ok (.bipush 52, 2) := by decide +kernel
theorem dX10_isPossible_67 : decode cX10_isPossible 67 = .ok (.if_icmp .lt 17, 3) := by decide +kernel
theorem dX10_isPossible_70 : decode cX10_isPossible 70 = .ok (.aload_n 0, 1) := by decide +kernel
theorem dX10_isPossible_71 : decode cX10_isPossible 71 = .ok (.getfield 37, 3) := by decide +kernel
theorem dX10_isPossible_74 : decode cX10_isPossible 74 = .ok (.invokevirtual 107, 3) := by decide +kernel
theorem dX10_isPossible_77 : decode cX10_isPossible 77 = .ok (.ifCond .ne 7, 3) := by decide +kernel
theorem dX10_isPossible_80 : decode cX10_isPossible 80 = .ok (.iconst 1, 1) := by decide +kernel
theorem dX10_isPossible_81 : decode cX10_isPossible 81 = .ok (.goto 4, 3) := by decide +kernel
theorem dX10_isPossible_84 : decode cX10_isPossible 84 = .ok (.iconst 0, 1) := by decide +kernel
theorem dX10_isPossible_85 : decode cX10_isPossible 85 = .ok (.ireturn, 1) := by decide +kernel
theorem dX10_findPlaces_0 : decode cX10_findPlaces 0 = .ok (.iconst 0, 1) := by decide +kernel
theorem dX10_findPlaces_1 : decode cX10_findPlaces 1 = .ok (.istore_n 1, 1) := by decide +kernel
theorem dX10_findPlaces_2 : decode cX10_findPlaces 2 = .ok (.iload_n 1, 1) := by decide +kernel
theorem dX10_findPlaces_3 : decode cX10_findPlaces 3 = .ok (.aload_n 0, 1) := by decide +kernel
theorem dX10_findPlaces_4 : decode cX10_findPlaces 4 = .ok (.getfield 37, 3) := by decide +kernel
theorem dX10_findPlaces_7 : decode cX10_findPlaces 7 = .ok (.invokevirtual 112, 3) := by decide +kernel
theorem dX10_findPlaces_10 : decode cX10_findPlaces 10 = .ok (.if_icmp .ge 53, 3) := by decide +kernel
theorem dX10_findPlaces_13 : decode cX10_findPlaces 13 = .ok (.aload_n 0, 1) := by decide +kernel
theorem dX10_findPlaces_14 : decode cX10_findPlaces 14 = .ok (.getfield 24, 3) := by decide +kernel
theorem dX10_findPlaces_17 : decode cX10_findPlaces 17 = .ok (.iload_n 1, 1) := by decide +kernel
theorem dX10_findPlaces_18 : decode cX10_findPlaces 18 = .ok (.aload_n 0, 1) := by decide +kernel
theorem dX10_findPlaces_19 : decode cX10_findPlaces 19 = .ok (.getfield 37, 3) := by decide +kernel
theorem dX10_findPlaces_22 : decode cX10_findPlaces 22 = .ok (.iload_n 1, 1) := by decide +kernel
theorem dX10_findPlaces_23 : decode cX10_findPlaces 23 = .ok (.invokevirtual 113, 3) := by decide +kernel
theorem dX10_findPlaces_26 : decode cX10_findPlaces 26 = .ok (.iastore, 1) := by decide +kernel
theorem dX10_findPlaces_27 : decode cX10_findPlaces 27 = .ok (.aload_n 0, 1) := by decide +kernel
theorem dX10_findPlaces_28 : decode cX10_findPlaces 28 = .ok (.getfield 27, 3) := by decide +kernel
theorem dX10_findPlaces_31 : decode cX10_findPlaces 31 = .ok (.iload_n 1, 1) := by decide +kernel
theorem dX10_findPlaces_32 : decode cX10_findPlaces 32 = .ok (.iconst 1, 1) := by decide +kernel
theorem dX10_findPlaces_33 : decode cX10_findPlaces 33 = .ok (.iadd, 1) := by decide +kernel
theorem dX10_findPlaces_34 : decode cX10_findPlaces 34 = .ok (.aload_n 0, 1) := by decide +kernel
theorem dX10_findPlaces_35 : decode cX10_findPlaces 35 = .ok (.getfield 27, 3) := by decide +kernel
theorem dX10_findPlaces_38 : decode cX10_findPlaces 38 = .ok (.iload_n 1, 1) := by decide +kernel
theorem dX10_findPlaces_39 : decode cX10_findPlaces 39 = .ok (.iaload, 1) := by decide +kernel
theorem dX10_findPlaces_40 : decode cX10_findPlaces 40 = .ok (.aload_n 0, 1) := by decide +kernel
theorem dX10_findPlaces_41 : decode cX10_findPlaces 41 = .ok (.getfield 24, 3) := by decide +kernel
theorem dX10_findPlaces_44 : decode cX10_findPlaces 44 = .ok (.iload_n 1, 1) := by decide +kernel
theorem dX10_findPlaces_45 : decode cX10_findPlaces 45 = .ok (.iaload, 1) := by decide +kernel
theorem dX10_findPlaces_46 : decode cX10_findPlaces 46 = .ok (.iadd, 1) := by decide +kernel
theorem dX10_findPlaces_47 : decode cX10_findPlaces 47 = .ok (.aload_n 0, 1) := by decide +kernel
theorem dX10_findPlaces_48 : decode cX10_findPlaces 48 = .ok (.getfield 24, 3) := by decide +kernel
theorem dX10_findPlaces_51 : decode cX10_findPlaces 51 = .ok (.iload_n 1, 1) := by decide +kernel
theorem dX10_findPlaces_52 : decode cX10_findPlaces 52 = .ok (.iaload, 1) := by decide +kernel
theorem dX10_findPlaces_53 : decode cX10_findPlaces 53 = .ok (.iconst 2, 1) := by decide +kernel
theorem dX10_findPlaces_54 : decode cX10_findPlaces 54 = .ok (.irem, 1) := by decide +kernel
theorem dX10_findPlaces_55 : decode cX10_findPlaces 55 = .ok (.iadd, 1) := by decide +kernel
theorem dX10_findPlaces_56 : decode cX10_findPlaces 56 = .ok (.iastore, 1) := by decide +kernel
theorem dX10_findPlaces_57 : decode cX10_findPlaces 57 = .ok (.iinc 1 1, 3) := by decide +kernel
theorem dX10_findPlaces_60 : decode cX10_findPlaces 60 = .ok (.goto (-58), 3) := by decide +kernel
theorem dX10_findPlaces_63 : decode cX10_findPlaces 63 = .ok (.return_, 1) := by decide +kernel
theorem dX10_newSize_0 : decode cX10_newSize 0 = .ok (.bipush 12, 2) := by decide +kernel
theorem dX10_newSize_2 : decode cX10_newSize 2 = .ok (.bipush 16, 2) := by decide +kernel
theorem dX10_newSize_4 : decode cX10_newSize 4 = .ok (.aload_n 0, 1) := by decide +kernel
theorem dX10_newSize_5 : decode cX10_newSize 5 = .ok (.getfield 33, 3) := by decide +kernel
theorem dX10_newSize_8 : decode cX10_newSize 8 = .ok (.invokevirtual 77, 3) := by decide +kernel
theorem dX10_newSize_11 : decode cX10_newSize 11 = .ok (.imul, 1) := by decide +kernel
theorem dX10_newSize_12 : decode cX10_newSize 12 = .ok (.iadd, 1) := by decide +kernel
theorem dX10_newSize_13 : decode cX10_newSize 13 = .ok (.istore_n 1, 1) := by decide +kernel
theorem dX10_newSize_14 : decode cX10_newSize 14 = .ok (.iconst 0, 1) := by decide +kernel
theorem dX10_newSize_15 : decode cX10_newSize 15 = .ok (.istore_n 2, 1) := by decide +kernel
theorem dX10_newSize_16 : decode cX10_newSize 16 = .ok (.iload_n 2, 1) := by decide +kernel
theorem dX10_newSize_17 : decode cX10_newSize 17 = .ok (.aload_n 0, 1) := by decide +kernel
theorem dX10_newSize_18 : decode cX10_newSize 18 = .ok (.getfield 33, 3) := by decide +kernel
theorem dX10_newSize_21 : decode cX10_newSize 21 = .ok (.invokevirtual 77, 3) := by decide +kernel
theorem dX10_newSize_24 : decode cX10_newSize 24 = .ok (.if_icmp .ge 20, 3) := by decide +kernel
theorem dX10_newSize_27 : decode cX10_newSize 27 = .ok (.iload_n 1, 1) := by decide +kernel
theorem dX10_newSize_28 : decode cX10_newSize 28 = .ok (.aload_n 0, 1) := by decide +kernel
theorem dX10_newSize_29 : decode cX10_newSize 29 = .ok (.iload_n 2, 1) := by decide +kernel
theorem dX10_newSize_30 : decode cX10_newSize 30 = .ok (.invokevirtual 117, 3) := by decide +kernel
theorem dX10_newSize_33 : decode cX10_newSize 33 = .ok (.invokestatic 120, 3) := by decide +kernel
theorem dX10_newSize_36 : decode cX10_newSize 36 = .ok (.iadd, 1) := by decide +kernel
theorem dX10_newSize_37 : decode cX10_newSize 37 = .ok (.istore_n 1, 1) := by decide +kernel
theorem dX10_newSize_38 : decode cX10_newSize 38 = .ok (.iinc 2 1, 3) := by decide +kernel
theorem dX10_newSize_41 : decode cX10_newSize 41 = .ok (.goto (-25), 3) := by decide +kernel
theorem dX10_newSize_44 : decode cX10_newSize 44 = .ok (.iload_n 1, 1) := by decide +kernel
theorem dX10_newSize_45 : decode cX10_newSize 45 = .ok (.ireturn, 1) := by decide +kernel
theorem dX10_padded_0 : decode cX10_padded 0 = .ok (.iload_n 0, 1) := by decide +kernel
theorem dX10_padded_1 : decode cX10_padded 1 = .ok (.iconst 3, 1) := by decide +kernel
theorem dX10_padded_2 : decode cX10_padded 2 = .ok (.iadd, 1) := by decide +kernel
theorem dX10_padded_3 : decode cX10_padded 3 = .ok (.iconst 4, 1) := by decide +kernel
theorem dX10_padded_4 : decode cX10_padded 4 = .ok (.idiv, 1) := by decide +kernel
theorem dX10_padded_5 : decode cX10_padded 5 = .ok (.iconst 4, 1) := by decide +kernel
theorem dX10_padded_6 : decode cX10_padded 6 = .ok (.imul, 1) := by decide +kernel
theorem dX10_padded_7 : decode cX10_padded 7 = .ok (.ireturn, 1) := by decide +kernel
theorem dX10_newLength_0 : decode cX10_newLength 0 = .ok (.iload_n 1, 1) := by decide +kernel
theorem dX10_newLength_1 : decode cX10_newLength 1 = .ok (.aload_n 0, 1) := by decide +kernel
theorem dX10_newLength_2 : decode cX10_newLength 2 = .ok (.getfield 33, 3) := by decide +kernel
theorem dX10_newLength_5 : decode cX10_newLength 5 = .ok (.ldc2_w 97, 3) := by decide +kernel
theorem dX10_newLength_8 : decode cX10_newLength 8 = .ok (.invokevirtual 123, 3) := by decide +kernel
theorem dX10_newLength_11 : decode cX10_newLength 11 = .ok (.if_icmp .ne 16, 3) := by decide +kernel
theorem dX10_newLength_14 : decode cX10_newLength 14 = .ok (.aload_n 0, 1) := by decide +kernel
theorem dX10_newLength_15 : decode cX10_newLength 15 = .ok (.getfield 27, 3) := by decide +kernel
theorem dX10_newLength_18 : decode cX10_newLength 18 = .ok (.aload_n 0, 1) := by decide +kernel
theorem dX10_newLength_19 : decode cX10_newLength 19 = .ok (.getfield 37, 3) := by decide +kernel
theorem dX10_newLength_22 : decode cX10_newLength 22 = .ok (.invokevirtual 112, 3) := by decide +kernel
theorem dX10_newLength_25 : decode cX10_newLength 25 = .ok (.iaload, 1) := by decide +kernel
theorem dX10_newLength_26 : decode cX10_newLength 26 = .ok (.ireturn, 1) := by decide +kernel
theorem dX10_newLength_27 : decode cX10_newLength 27 = .ok (.iload_n 1, 1) := by decide +kernel
theorem dX10_newLength_28 : decode cX10_newLength 28 = .ok (.aload_n 0, 1) := by decide +kernel
theorem dX10_newLength_29 : decode cX10_newLength 29 = .ok (.getfield 33, 3) := by decide +kernel
theorem dX10_newLength_32 : decode cX10_newLength 32 = .ok (.ldc2_w 95, 3) := by decide +kernel
theorem dX10_newLength_35 : decode cX10_newLength 35 = .ok (.invokevirtual 123, 3) := by decide +kernel
theorem dX10_newLength_38 : decode cX10_newLength 38 = .ok (.if_icmp .ne 29, 3) := by decide +kernel
theorem dX10_newLength_41 : decode cX10_newLength 41 = .ok (.aload_n 0, 1) := by decide +kernel
theorem dX10_newLength_42 : decode cX10_newLength 42 = .ok (.getfield 37, 3) := by decide +kernel
theorem dX10_newLength_45 : decode cX10_newLength 45 = .ok (.invokevirtual 112, 3) := by decide +kernel
theorem dX10_newLength_48 : decode cX10_newLength 48 = .ok (.iconst 1, 1) := by decide +kernel
theorem dX10_newLength_49 : decode cX10_newLength 49 = .ok (.iadd, 1) := by decide +kernel
theorem dX10_newLength_50 : decode cX10_newLength 50 = .ok (.aload_n 0, 1) := by decide +kernel
theorem dX10_newLength_51 : decode cX10_newLength 51 = .ok (.getfield 37, 3) := by decide +kernel
theorem dX10_newLength_54 : decode cX10_newLength 54 = .ok (.invokevirtual 127, 3) := by decide +kernel
theorem dX10_newLength_57 : decode cX10_newLength 57 = .ok (.ifCond .eq 7, 3) := by decide +kernel
theorem dX10_newLength_60 : decode cX10_newLength 60 = .ok (.iconst 4, 1) := by decide +kernel
theorem dX10_newLength_61 : decode cX10_newLength 61 = .ok (.goto 4, 3) := by decide +kernel
theorem dX10_newLength_64 : decode cX10_newLength 64 = .ok (.iconst 2, 1) := by decide +kernel
theorem dX10_newLength_65 : decode cX10_newLength 65 = .ok (.imul, 1) := by decide +kernel
theorem dX10_newLength_66 : decode cX10_newLength 66 = .ok (.ireturn, 1) := by decide +kernel
theorem dX10_newLength_67 : decode cX10_newLength 67 = .ok (.aload_n 0, 1) := by decide +kernel
theorem dX10_newLength_68 : decode cX10_newLength 68 = .ok (.getfield 33, 3) := by decide +kernel
theorem dX10_newLength_71 : decode cX10_newLength 71 = .ok (.iload_n 1, 1) := by decide +kernel
theorem dX10_newLength_72 : decode cX10_newLength 72 = .ok (.invokevirtual 130, 3) := by decide +kernel
theorem dX10_newLength_75 : decode cX10_newLength 75 = .ok (.getfield 103, 3) := by decide +kernel
theorem dX10_newLength_78 : decode cX10_newLength 78 = .ok (.ireturn, 1) := by decide +kernel
theorem dX10_sortByTags_0 : decode cX10_sortByTags 0 = .ok (.iconst 0, 1) := by decide +kernel
theorem dX10_sortByTags_1 : decode cX10_sortByTags 1 = .ok (.istore_n 1, 1) := by decide +kernel
theorem dX10_sortByTags_2 : decode cX10_sortByTags 2 = .ok (.iload_n 1, 1) := by decide +kernel
theorem dX10_sortByTags_3 : decode cX10_sortByTags 3 = .ok (.aload_n 0, 1) := by decide +kernel
theorem dX10_sortByTags_4 : decode cX10_sortByTags 4 = .ok (.getfield 33, 3) := by decide +kernel
theorem dX10_sortByTags_7 : decode cX10_sortByTags 7 = .ok (.invokevirtual 77, 3) := by decide +kernel
theorem dX10_sortByTags_10 : decode cX10_sortByTags 10 = .ok (.if_icmp .ge 75, 3) := by decide +kernel
theorem dX10_sortByTags_13 : decode cX10_sortByTags 13 = .ok (.iload_n 1, 1) := by decide +kernel
theorem dX10_sortByTags_14 : decode cX10_sortByTags 14 = .ok (.istore_n 2, 1) := by decide +kernel
theorem dX10_sortByTags_15 : decode cX10_sortByTags 15 = .ok (.iload_n 2, 1) := by decide +kernel
theorem dX10_sortByTags_16 : decode cX10_sortByTags 16 = .ok (.ifCond .le 56, 3) := by decide +kernel
theorem dX10_sortByTags_19 : decode cX10_sortByTags 19 = .ok (.aload_n 0, 1) := by decide +kernel
theorem dX10_sortByTags_20 : decode cX10_sortByTags 20 = .ok (.getfield 33, 3) := by decide +kernel
theorem dX10_sortByTags_23 : decode cX10_sortByTags 23 = .ok (.aload_n 0, 1) := by decide +kernel
theorem dX10_sortByTags_24 : decode cX10_sortByTags 24 = .ok (.getfield 20, 3) := by decide +kernel
theorem dX10_sortByTags_27 : decode cX10_sortByTags 27 = .ok (.iload_n 2, 1) := by decide +kernel
theorem dX10_sortByTags_28 : decode cX10_sortByTags 28 = .ok (.iconst 1, 1) := by decide +kernel
theorem dX10_sortByTags_29 : decode cX10_sortByTags 29 = .ok (.isub, 1) := by decide +kernel
theorem dX10_sortByTags_30 : decode cX10_sortByTags 30 = .ok (.iaload, 1) := by decide +kernel
theorem dX10_sortByTags_31 : decode cX10_sortByTags 31 = .ok (.invokevirtual 130, 3) := by decide +kernel
theorem dX10_sortByTags_34 : decode cX10_sortByTags 34 = .ok (.getfield 134, 3) := by decide +kernel
theorem dX10_sortByTags_37 : decode cX10_sortByTags 37 = .ok (.aload_n 0, 1) := by decide +kernel
theorem dX10_sortByTags_38 : decode cX10_sortByTags 38 = .ok (.getfield 33, 3) := by decide +kernel
theorem dX10_sortByTags_41 : decode cX10_sortByTags 41 = .ok (.iload_n 1, 1) := by decide +kernel
theorem dX10_sortByTags_42 : decode cX10_sortByTags 42 = .ok (.invokevirtual 130, 3) := by decide +kernel
theorem dX10_sortByTags_45 : decode cX10_sortByTags 45 = .ok (.getfield 134, 3) := by decide +kernel
theorem dX10_sortByTags_48 : decode cX10_sortByTags 48 = .ok (.lcmp, 1) := by decide +kernel
theorem dX10_sortByTags_49 : decode cX10_sortByTags 49 = .ok (.ifCond .le 23, 3) := by decide +kernel
theorem dX10_sortByTags_52 : decode cX10_sortByTags 52 = .ok (.aload_n 0, 1) := by decide +kernel
theorem dX10_sortByTags_53 : decode cX10_sortByTags 53 = .ok (.getfield 20, 3) := by decide +kernel
theorem dX10_sortByTags_56 : decode cX10_sortByTags 56 = .ok (.iload_n 2, 1) := by decide +kernel
theorem dX10_sortByTags_57 : decode cX10_sortByTags 57 = .ok (.aload_n 0, 1) := by decide +kernel
theorem dX10_sortByTags_58 : decode cX10_sortByTags 58 = .ok (.getfield 20, 3) := by decide +kernel
theorem dX10_sortByTags_61 : decode cX10_sortByTags 61 = .ok (.iload_n 2, 1) := by decide +kernel
theorem dX10_sortByTags_62 : decode cX10_sortByTags 62 = .ok (.iconst 1, 1) := by decide +kernel
theorem dX10_sortByTags_63 : decode cX10_sortByTags 63 = .ok (.isub, 1) := by decide +kernel
theorem dX10_sortByTags_64 : decode cX10_sortByTags 64 = .ok (.iaload, 1) := by decide +kernel
theorem dX10_sortByTags_65 : decode cX10_sortByTags 65 = .ok (.iastore, 1) := by decide +kernel
theorem dX10_sortByTags_66 : decode cX10_sortByTags 66 = .ok (.iinc 2 (-1), 3) := by decide +kernel
theorem dX10_sortByTags_69 : decode cX10_sortByTags 69 = .ok (.goto (-54), 3) := by decide +kernel
theorem dX10_sortByTags_72 : decode cX10_sortByTags 72 = .ok (.aload_n 0, 1) := by decide +kernel
theorem dX10_sortByTags_73 : decode cX10_sortByTags 73 = .ok (.getfield 20, 3) := by decide +kernel
theorem dX10_sortByTags_76 : decode cX10_sortByTags 76 = .ok (.iload_n 2, 1) := by decide +kernel
theorem dX10_sortByTags_77 : decode cX10_sortByTags 77 = .ok (.iload_n 1, 1) := by decide +kernel
theorem dX10_sortByTags_78 : decode cX10_sortByTags 78 = .ok (.iastore, 1) := by decide +kernel
theorem dX10_sortByTags_79 : decode cX10_sortByTags 79 = .ok (.iinc 1 1, 3) := by decide +kernel
theorem dX10_sortByTags_82 : decode cX10_sortByTags 82 = .ok (.goto (-80), 3) := by decide +kernel
theorem dX10_sortByTags_85 : decode cX10_sortByTags 85 = .ok (.return_, 1) := by decide +kernel
theorem dX10_putHeader_0 : decode cX10_putHeader 0 = .ok (.iconst 0, 1) := by decide +kernel
theorem dX10_putHeader_1 : decode cX10_putHeader 1 = .ok (.istore_n 1, 1) := by decide +kernel
theorem dX10_putHeader_2 : decode cX10_putHeader 2 = .ok (.iload_n 1, 1) := by decide +kernel
theorem dX10_putHeader_3 : decode cX10_putHeader 3 = .ok (.bipush 12, 2) := by decide +kernel
theorem dX10_putHeader_5 : decode cX10_putHeader 5 = .ok (.if_icmp .ge 28, 3) := by decide +kernel
theorem dX10_putHeader_8 : decode cX10_putHeader 8 = .ok (.aload_n 0, 1) := by decide +kernel
theorem dX10_putHeader_9 : decode cX10_putHeader 9 = .ok (.getfield 14, 3) := by decide +kernel
theorem dX10_putHeader_12 : decode cX10_putHeader 12 = .ok (.aload_n 0, 1) := by decide +kernel
theorem dX10_putHeader_13 : decode cX10_putHeader 13 = .ok (.getfield 30, 3) := by decide +kernel
theorem dX10_putHeader_16 : decode cX10_putHeader 16 = .ok (.iload_n 1, 1) := by decide +kernel
theorem dX10_putHeader_17 : decode cX10_putHeader 17 = .ok (.i2l, 1) := by decide +kernel
theorem dX10_putHeader_18 : decode cX10_putHeader 18 = .ok (.ldc2_w 138, 3) := by decide +kernel
theorem dX10_putHeader_21 : decode cX10_putHeader 21 = .ok (.invokevirtual 54, 3) := by decide +kernel
theorem dX10_putHeader_24 : decode cX10_putHeader 24 = .ok (.invokevirtual 140, 3) := by decide +kernel
theorem dX10_putHeader_27 : decode cX10_putHeader 27 = .ok (.iinc 1 1, 3) := by decide +kernel
theorem dX10_putHeader_30 : decode cX10_putHeader 30 = .ok (.goto (-28), 3) := by decide +kernel
theorem dX10_putHeader_33 : decode cX10_putHeader 33 = .ok (.iconst 0, 1) := by decide +kernel
theorem dX10_putHeader_34 : decode cX10_putHeader 34 = .ok (.istore_n 1, 1) := by decide +kernel
theorem dX10_putHeader_35 : decode cX10_putHeader 35 = .ok (.iload_n 1, 1) := by decide +kernel
theorem dX10_putHeader_36 : decode cX10_putHeader 36 = .ok (.bipush 16, 2) := by decide +kernel
theorem dX10_putHeader_38 : decode cX10_putHeader 38 = .ok (.aload_n 0, 1) := by decide +kernel
theorem dX10_putHeader_39 : decode cX10_putHeader 39 = .ok (.getfield 33, 3) := by decide +kernel
theorem dX10_putHeader_42 : decode cX10_putHeader 42 = .ok (.invokevirtual 77, 3) := by decide +kernel
theorem dX10_putHeader_45 : decode cX10_putHeader 45 = .ok (.imul, 1) := by decide +kernel
theorem dX10_putHeader_46 : decode cX10_putHeader 46 = .ok (.if_icmp .ge 17, 3) := by decide +kernel
theorem dX10_putHeader_49 : decode cX10_putHeader 49 = .ok (.aload_n 0, 1) := by decide +kernel
theorem dX10_putHeader_50 : decode cX10_putHeader 50 = .ok (.getfield 14, 3) := by decide +kernel
theorem dX10_putHeader_53 : decode cX10_putHeader 53 = .ok (.iconst 0, 1) := by decide +kernel
theorem dX10_putHeader_54 : decode cX10_putHeader 54 = .ok (.invokevirtual 140, 3) := by decide +kernel
theorem dX10_putHeader_57 : decode cX10_putHeader 57 = .ok (.iinc 1 1, 3) := by decide +kernel
theorem dX10_putHeader_60 : decode cX10_putHeader 60 = .ok (.goto (-25), 3) := by decide +kernel
theorem dX10_putHeader_63 : decode cX10_putHeader 63 = .ok (.return_, 1) := by decide +kernel
theorem dX10_putTable_0 : decode cX10_putTable 0 = .ok (.aload_n 0, 1) := by decide +kernel
theorem dX10_putTable_1 : decode cX10_putTable 1 = .ok (.getfield 14, 3) := by decide +kernel
theorem dX10_putTable_4 : decode cX10_putTable 4 = .ok (.invokevirtual 50, 3) := by decide +kernel
theorem dX10_putTable_7 : decode cX10_putTable 7 = .ok (.istore_n 3, 1) := by decide +kernel
theorem dX10_putTable_8 : decode cX10_putTable 8 = .ok (.aload_n 0, 1) := by decide +kernel
theorem dX10_putTable_9 : decode cX10_putTable 9 = .ok (.iload_n 2, 1) := by decide +kernel
theorem dX10_putTable_10 : decode cX10_putTable 10 = .ok (.invokevirtual 144, 3) := by decide +kernel
theorem dX10_putTable_13 : decode cX10_putTable 13 = .ok (.aload_n 0, 1) := by decide +kernel
theorem dX10_putTable_14 : decode cX10_putTable 14 = .ok (.getfield 14, 3) := by decide +kernel
theorem dX10_putTable_17 : decode cX10_putTable 17 = .ok (.invokevirtual 50, 3) := by decide +kernel
theorem dX10_putTable_20 : decode cX10_putTable 20 = .ok (.iload_n 3, 1) := by decide +kernel
theorem dX10_putTable_21 : decode cX10_putTable 21 = .ok (.isub, 1) := by decide +kernel
theorem dX10_putTable_22 : decode cX10_putTable 22 = .ok (.istore 4, 2) := by decide +kernel
theorem dX10_putTable_24 : decode cX10_putTable 24 = .ok (.aload_n 0, 1) := by decide +kernel
theorem dX10_putTable_25 : decode cX10_putTable 25 = .ok (.getfield 33, 3) := by decide +kernel
theorem dX10_putTable_28 : decode cX10_putTable 28 = .ok (.iload_n 2, 1) := by decide +kernel
theorem dX10_putTable_29 : decode cX10_putTable 29 = .ok (.invokevirtual 130, 3) := by decide +kernel
theorem dX10_putTable_32 : decode cX10_putTable 32 = .ok (.getfield 134, 3) := by decide +kernel
theorem dX10_putTable_35 : decode cX10_putTable 35 = .ok (.lstore 5, 2) := by decide +kernel
theorem dX10_putTable_37 : decode cX10_putTable 37 = .ok (.aload_n 0, 1) := by decide +kernel
theorem dX10_putTable_38 : decode cX10_putTable 38 = .ok (.getfield 46, 3) := by decide +kernel
theorem dX10_putTable_41 : decode cX10_putTable 41 = .ok (.lload 5, 2) := by decide +kernel
theorem dX10_putTable_43 : decode cX10_putTable 43 = .ok (.lconst 0, 1) := by decide +kernel
theorem dX10_putTable_44 : decode cX10_putTable 44 = .ok (.iload_n 3, 1) := by decide +kernel
theorem dX10_putTable_45 : decode cX10_putTable 45 = .ok (.iload 4, 2) := by decide +kernel
theorem dX10_putTable_47 : decode cX10_putTable 47 = .ok (.invokevirtual 147, 3) := by decide +kernel
theorem dX10_putTable_50 : decode cX10_putTable 50 = .ok (.bipush 12, 2) := by decide +kernel
theorem dX10_putTable_52 : decode cX10_putTable 52 = .ok (.bipush 16, 2) := by decide +kernel
theorem dX10_putTable_54 : decode cX10_putTable 54 = .ok (.iload_n 1, 1) := by decide +kernel
theorem dX10_putTable_55 : decode cX10_putTable 55 = .ok (.imul, 1) := by decide +kernel
theorem dX10_putTable_56 : decode cX10_putTable 56 = .ok (.iadd, 1) := by decide +kernel
theorem dX10_putTable_57 : decode cX10_putTable 57 = .ok (.istore 7, 2) := by decide +kernel
theorem dX10_putTable_59 : decode cX10_putTable 59 = .ok (.aload_n 0, 1) := by decide +kernel
theorem dX10_putTable_60 : decode cX10_putTable 60 = .ok (.getfield 14, 3) := by decide +kernel
theorem dX10_putTable_63 : decode cX10_putTable 63 = .ok (.iload 7, 2) := by decide +kernel
theorem dX10_putTable_65 : decode cX10_putTable 65 = .ok (.lload 5, 2) := by decide +kernel
theorem dX10_putTable_67 : decode cX10_putTable 67 = .ok (.invokevirtual 151, 3) := by decide +kernel
theorem dX10_putTable_70 : decode cX10_putTable 70 = .ok (.aload_n 0, 1) := by decide +kernel
theorem dX10_putTable_71 : decode cX10_putTable 71 = .ok (.getfield 14, 3) := by decide +kernel
theorem dX10_putTable_74 : decode cX10_putTable 74 = .ok (.iload 7, 2) := by decide +kernel
theorem dX10_putTable_76 : decode cX10_putTable 76 = .ok (.iconst 4, 1) := by decide +kernel
theorem dX10_putTable_77 : decode cX10_putTable 77 = .ok (.iadd, 1) := by decide +kernel
theorem dX10_putTable_78 : decode cX10_putTable 78 = .ok (.aload_n 0, 1) := by decide +kernel
theorem dX10_putTable_79 : decode cX10_putTable 79 = .ok (.getfield 46, 3) := by decide +kernel
theorem dX10_putTable_82 : decode cX10_putTable 82 = .ok (.iconst 0, 1) := by decide +kernel
theorem dX10_putTable_83 : decode cX10_putTable 83 = .ok (.invokevirtual 155, 3) := by decide +kernel
theorem dX10_putTable_86 : decode cX10_putTable 86 = .ok (.invokevirtual 151, 3) := by decide +kernel
theorem dX10_putTable_89 : decode cX10_putTable 89 = .ok (.aload_n 0, 1) := by decide +kernel
theorem dX10_putTable_90 : decode cX10_putTable 90 = .ok (.getfield 14, 3) := by decide +kernel
theorem dX10_putTable_93 : decode cX10_putTable 93 = .ok (.iload 7, 2) := by decide +kernel
theorem dX10_putTable_95 : decode cX10_putTable 95 = .ok (.bipush 8, 2) := by decide +kernel
theorem dX10_putTable_97 : decode cX10_putTable 97 = .ok (.iadd, 1) := by decide +kernel
theorem dX10_putTable_98 : decode cX10_putTable 98 = .ok (.iload_n 3, 1) := by decide +kernel
theorem dX10_putTable_99 : decode cX10_putTable 99 = .ok (.i2l, 1) := by decide +kernel
theorem dX10_putTable_100 : decode cX10_putTable 100 = .ok (.invokevirtual 151, 3) := by decide +kernel
theorem dX10_putTable_103 : decode cX10_putTable 103 = .ok (.aload_n 0, 1) := by decide +kernel
theorem dX10_putTable_104 : decode cX10_putTable 104 = .ok (.getfield 14, 3) := by decide +kernel
theorem dX10_putTable_107 : decode cX10_putTable 107 = .ok (.iload 7, 2) := by decide +kernel
theorem dX10_putTable_109 : decode cX10_putTable 109 = .ok (.bipush 12, 2) := by decide +kernel
theorem dX10_putTable_111 : decode cX10_putTable 111 = .ok (.iadd, 1) := by decide +kernel
theorem dX10_putTable_112 : decode cX10_putTable 112 = .ok (.iload 4, 2) := by decide +kernel
theorem dX10_putTable_114 : decode cX10_putTable 114 = .ok (.i2l, 1) := by decide +kernel
theorem dX10_putTable_115 : decode cX10_putTable 115 = .ok (.invokevirtual 151, 3) := by decide +kernel
theorem dX10_putTable_118 : decode cX10_putTable 118 = .ok (.iload 4, 2) := by decide +kernel
theorem dX10_putTable_120 : decode cX10_putTable 120 = .ok (.invokestatic 120, 3) := by decide +kernel
theorem dX10_putTable_123 : decode cX10_putTable 123 = .ok (.iload 4, 2) := by decide +kernel
theorem dX10_putTable_125 : decode cX10_putTable 125 = .ok (.isub, 1) := by decide +kernel
theorem dX10_putTable_126 : decode cX10_putTable 126 = .ok (.istore 8, 2) := by decide +kernel
theorem dX10_putTable_128 : decode cX10_putTable 128 = .ok (.iconst 0, 1) := by decide +kernel
theorem dX10_putTable_129 : decode cX10_putTable 129 = .ok (.istore 9, 2) := by decide +kernel
theorem dX10_putTable_131 : decode cX10_putTable 131 = .ok (.iload 9, 2) := by decide +kernel
theorem dX10_putTable_133 : decode cX10_putTable 133 = .ok (.iload 8, 2) := by decide +kernel
theorem dX10_putTable_135 : decode cX10_putTable 135 = .ok (.if_icmp .ge 17, 3) := by decide +kernel
theorem dX10_putTable_138 : decode cX10_putTable 138 = .ok (.aload_n 0, 1) := by decide +kernel
theorem dX10_putTable_139 : decode cX10_putTable 139 = .ok (.getfield 14, 3) := by decide +kernel
theorem dX10_putTable_142 : decode cX10_putTable 142 = .ok (.iconst 0, 1) := by decide +kernel
theorem dX10_putTable_143 : decode cX10_putTable 143 = .ok (.invokevirtual 140, 3) := by decide +kernel
theorem dX10_putTable_146 : decode cX10_putTable 146 = .ok (.iinc 9 1, 3) := by decide +kernel
theorem dX10_putTable_149 : decode cX10_putTable 149 = .ok (.goto (-18), 3) := by decide +kernel
theorem dX10_putTable_152 : decode cX10_putTable 152 = .ok (.return_, 1) := by decide +kernel
theorem dX10_putBody_0 : decode cX10_putBody 0 = .ok (.iload_n 1, 1) := by decide +kernel
theorem dX10_putBody_1 : decode cX10_putBody 1 = .ok (.aload_n 0, 1) := by decide +kernel
theorem dX10_putBody_2 : decode cX10_putBody 2 = .ok (.getfield 33, 3) := by decide +kernel
theorem dX10_putBody_5 : decode cX10_putBody 5 = .ok (.ldc2_w 97, 3) := by decide +kernel
theorem dX10_putBody_8 : decode cX10_putBody 8 = .ok (.invokevirtual 123, 3) := by decide +kernel
theorem dX10_putBody_11 : decode cX10_putBody 11 = .ok (.if_icmp .ne 18, 3) := by decide +kernel
theorem dX10_putBody_14 : decode cX10_putBody 14 = .ok (.aload_n 0, 1) := by decide +kernel
theorem dX10_putBody_15 : decode cX10_putBody 15 = .ok (.aload_n 0, 1) := by decide +kernel
theorem dX10_putBody_16 : decode cX10_putBody 16 = .ok (.getfield 33, 3) := by decide +kernel
theorem dX10_putBody_19 : decode cX10_putBody 19 = .ok (.iload_n 1, 1) := by decide +kernel
theorem dX10_putBody_20 : decode cX10_putBody 20 = .ok (.invokevirtual 130, 3) := by decide +kernel
theorem dX10_putBody_23 : decode cX10_putBody 23 = .ok (.invokevirtual 159, 3) := by decide +kernel
theorem dX10_putBody_26 : decode cX10_putBody 26 = .ok (.goto 77, 3) := by decide +kernel
theorem dX10_putBody_29 : decode cX10_putBody 29 = .ok (.iload_n 1, 1) := by decide +kernel
theorem dX10_putBody_30 : decode cX10_putBody 30 = .ok (.aload_n 0, 1) := by decide +kernel
theorem dX10_putBody_31 : decode cX10_putBody 31 = .ok (.getfield 33, 3) := by decide +kernel
theorem dX10_putBody_34 : decode cX10_putBody 34 = .ok (.ldc2_w 95, 3) := by decide +kernel
theorem dX10_putBody_37 : decode cX10_putBody 37 = .ok (.invokevirtual 123, 3) := by decide +kernel
theorem dX10_putBody_40 : decode cX10_putBody 40 = .ok (.if_icmp .ne 10, 3) := by decide +kernel
theorem dX10_putBody_43 : decode cX10_putBody 43 = .ok (.aload_n 0, 1) := by decide +kernel
theorem dX10_putBody_44 : decode cX10_putBody 44 = .ok (.invokevirtual 163, 3) := by decide +kernel
theorem dX10_putBody_47 : decode cX10_putBody 47 = .ok (.goto 56, 3) := by decide +kernel
theorem dX10_putBody_50 : decode cX10_putBody 50 = .ok (.iload_n 1, 1) := by decide +kernel
theorem dX10_putBody_51 : decode cX10_putBody 51 = .ok (.aload_n 0, 1) := by decide +kernel
theorem dX10_putBody_52 : decode cX10_putBody 52 = .ok (.getfield 33, 3) := by decide +kernel
theorem dX10_putBody_55 : decode cX10_putBody 55 = .ok (.ldc2_w 87, 3) := by decide +kernel
theorem dX10_putBody_58 : decode cX10_putBody 58 = .ok (.invokevirtual 123, 3) := by decide +kernel
theorem dX10_putBody_61 : decode cX10_putBody 61 = .ok (.if_icmp .ne 18, 3) := by decide +kernel
theorem dX10_putBody_64 : decode cX10_putBody 64 = .ok (.aload_n 0, 1) := by decide +kernel
theorem dX10_putBody_65 : decode cX10_putBody 65 = .ok (.aload_n 0, 1) := by decide +kernel
theorem dX10_putBody_66 : decode cX10_putBody 66 = .ok (.getfield 33, 3) := by decide +kernel
theorem dX10_putBody_69 : decode cX10_putBody 69 = .ok (.iload_n 1, 1) := by decide +kernel
theorem dX10_putBody_70 : decode cX10_putBody 70 = .ok (.invokevirtual 130, 3) := by decide +kernel
theorem dX10_putBody_73 : decode cX10_putBody 73 = .ok (.invokevirtual 166, 3) := by decide +kernel
theorem dX10_putBody_76 : decode cX10_putBody 76 = .ok (.goto 27, 3) := by decide +kernel
theorem dX10_putBody_79 : decode cX10_putBody 79 = .ok (.aload_n 0, 1) := by decide +kernel
theorem dX10_putBody_80 : decode cX10_putBody 80 = .ok (.aload_n 0, 1) := by decide +kernel
theorem dX10_putBody_81 : decode cX10_putBody 81 = .ok (.getfield 33, 3) := by decide +kernel
theorem dX10_putBody_84 : decode cX10_putBody 84 = .ok (.iload_n 1, 1) := by decide +kernel
theorem dX10_putBody_85 : decode cX10_putBody 85 = .ok (.invokevirtual 130, 3) := by decide +kernel
theorem dX10_putBody_88 : decode cX10_putBody 88 = .ok (.lconst 0, 1) := by decide +kernel
theorem dX10_putBody_89 : decode cX10_putBody 89 = .ok (.aload_n 0, 1) := by decide +kernel
theorem dX10_putBody_90 : decode cX10_putBody 90 = .ok (.getfield 33, 3) := by decide +kernel
theorem dX10_putBody_93 : decode cX10_putBody 93 = .ok (.iload_n 1, 1) := by decide +kernel
theorem dX10_putBody_94 : decode cX10_putBody 94 = .ok (.invokevirtual 130, 3) := by decide +kernel
theorem dX10_putBody_97 : decode cX10_putBody 97 = .ok (.getfield 103, 3) := by decide +kernel
theorem dX10_putBody_100 : decode cX10_putBody 100 = .ok (.invokevirtual 169, 3) := by decide +kernel
theorem dX10_putBody_103 : decode cX10_putBody 103 = .ok (.return_, 1) := by decide +kernel
theorem dX10_putBytes_0 : decode cX10_putBytes 0 = .ok (.iconst 0, 1) := by decide +kernel
theorem dX10_putBytes_1 : decode cX10_putBytes 1 = .ok (.istore 5, 2) := by decide +kernel
theorem dX10_putBytes_3 : decode cX10_putBytes 3 = .ok (.iload 5, 2) := by decide +kernel
theorem dX10_putBytes_5 : decode cX10_putBytes 5 = .ok (.iload 4, 2) := by decide +kernel
theorem dX10_putBytes_7 : decode cX10_putBytes 7 = .ok (.if_icmp .ge 25, 3) := by decide +kernel
theorem dX10_putBytes_10 : decode cX10_putBytes 10 = .ok (.aload_n 0, 1) := by decide +kernel
theorem dX10_putBytes_11 : decode cX10_putBytes 11 = .ok (.getfield 14, 3) := by decide +kernel
theorem dX10_putBytes_14 : decode cX10_putBytes 14 = .ok (.aload_n 1, 1) := by decide +kernel
theorem dX10_putBytes_15 : decode cX10_putBytes 15 = .ok (.lload_n 2, 1) := by decide +kernel
theorem dX10_putBytes_16 : decode cX10_putBytes 16 = .ok (.iload 5, 2) := by decide +kernel
theorem dX10_putBytes_18 : decode cX10_putBytes 18 = .ok (.i2l, 1) := by decide +kernel
theorem dX10_putBytes_19 : decode cX10_putBytes 19 = .ok (.ladd, 1) := by decide +kernel
theorem dX10_putBytes_20 : decode cX10_putBytes 20 = .ok (.invokevirtual 173, 3) := by decide +kernel
theorem dX10_putBytes_23 : decode cX10_putBytes 23 = .ok (.invokevirtual 140, 3) := by decide +kernel
theorem dX10_putBytes_26 : decode cX10_putBytes 26 = .ok (.iinc 5 1, 3) := by decide +kernel
theorem dX10_putBytes_29 : decode cX10_putBytes 29 = .ok (.goto (-26), 3) := by decide +kernel
theorem dX10_putBytes_32 : decode cX10_putBytes 32 = .ok (.return_, 1) := by decide +kernel
theorem dX10_putHead_0 : decode cX10_putHead 0 = .ok (.aload_n 0, 1) := by decide +kernel
theorem dX10_putHead_1 : decode cX10_putHead 1 = .ok (.aload_n 0, 1) := by decide +kernel
theorem dX10_putHead_2 : decode cX10_putHead 2 = .ok (.getfield 14, 3) := by decide +kernel
theorem dX10_putHead_5 : decode cX10_putHead 5 = .ok (.invokevirtual 50, 3) := by decide +kernel
theorem dX10_putHead_8 : decode cX10_putHead 8 = .ok (.putfield 175, 3) := by decide +kernel
theorem dX10_putHead_11 : decode cX10_putHead 11 = .ok (.aload_n 0, 1) := by decide +kernel
theorem dX10_putHead_12 : decode cX10_putHead 12 = .ok (.aload_n 1, 1) := by decide +kernel
theorem dX10_putHead_13 : decode cX10_putHead 13 = .ok (.lconst 0, 1) := by decide +kernel
theorem dX10_putHead_14 : decode cX10_putHead 14 = .ok (.aload_n 1, 1) := by decide +kernel
theorem dX10_putHead_15 : decode cX10_putHead 15 = .ok (.getfield 103, 3) := by decide +kernel
theorem dX10_putHead_18 : decode cX10_putHead 18 = .ok (.invokevirtual 169, 3) := by decide +kernel
theorem dX10_putHead_21 : decode cX10_putHead 21 = .ok (.aload_n 0, 1) := by decide +kernel
theorem dX10_putHead_22 : decode cX10_putHead 22 = .ok (.getfield 14, 3) := by decide +kernel
theorem dX10_putHead_25 : decode cX10_putHead 25 = .ok (.aload_n 0, 1) := by decide +kernel
theorem dX10_putHead_26 : decode cX10_putHead 26 = .ok (.getfield 175, 3) := by decide +kernel
theorem dX10_putHead_29 : decode cX10_putHead 29 = .ok (.bipush 8, 2) := by decide +kernel
theorem dX10_putHead_31 : decode cX10_putHead 31 = .ok (.iadd, 1) := by decide +kernel
theorem dX10_putHead_32 : decode cX10_putHead 32 = .ok (.lconst 0, 1) := by decide +kernel
theorem dX10_putHead_33 : decode cX10_putHead 33 = .ok (.invokevirtual 151, 3) := by decide +kernel
theorem dX10_putHead_36 : decode cX10_putHead 36 = .ok (.return_, 1) := by decide +kernel
theorem dX10_putGlyf_0 : decode cX10_putGlyf 0 = .ok (.iconst 0, 1) := by decide +kernel
theorem dX10_putGlyf_1 : decode cX10_putGlyf 1 = .ok (.istore_n 2, 1) := by decide +kernel
theorem dX10_putGlyf_2 : decode cX10_putGlyf 2 = .ok (.iload_n 2, 1) := by decide +kernel
theorem dX10_putGlyf_3 : decode cX10_putGlyf 3 = .ok (.aload_n 0, 1) := by decide +kernel
theorem dX10_putGlyf_4 : decode cX10_putGlyf 4 = .ok (.getfield 37, 3) := by decide +kernel
theorem dX10_putGlyf_7 : decode cX10_putGlyf 7 = .ok (.invokevirtual 112, 3) := by decide +kernel
theorem dX10_putGlyf_10 : decode cX10_putGlyf 10 = .ok (.if_icmp .ge 47, 3) := by decide +kernel
theorem dX10_putGlyf_13 : decode cX10_putGlyf 13 = .ok (.aload_n 0, 1) := by decide +kernel
theorem dX10_putGlyf_14 : decode cX10_putGlyf 14 = .ok (.aload_n 1, 1) := by decide +kernel
theorem dX10_putGlyf_15 : decode cX10_putGlyf 15 = .ok (.aload_n 0, 1) := by decide +kernel
theorem dX10_putGlyf_16 : decode cX10_putGlyf 16 = .ok (.getfield 37, 3) := by decide +kernel
theorem dX10_putGlyf_19 : decode cX10_putGlyf 19 = .ok (.iload_n 2, 1) := by decide +kernel
theorem dX10_putGlyf_20 : decode cX10_putGlyf 20 = .ok (.invokevirtual 178, 3) := by decide +kernel
theorem dX10_putGlyf_23 : decode cX10_putGlyf 23 = .ok (.aload_n 0, 1) := by decide +kernel
theorem dX10_putGlyf_24 : decode cX10_putGlyf 24 = .ok (.getfield 24, 3) := by decide +kernel
theorem dX10_putGlyf_27 : decode cX10_putGlyf 27 = .ok (.iload_n 2, 1) := by decide +kernel
theorem dX10_putGlyf_28 : decode cX10_putGlyf 28 = .ok (.iaload, 1) := by decide +kernel
theorem dX10_putGlyf_29 : decode cX10_putGlyf 29 = .ok (.invokevirtual 169, 3) := by decide +kernel
theorem dX10_putGlyf_32 : decode cX10_putGlyf 32 = .ok (.aload_n 0, 1) := by decide +kernel
theorem dX10_putGlyf_33 : decode cX10_putGlyf 33 = .ok (.getfield 24, 3) := by decide +kernel
theorem dX10_putGlyf_36 : decode cX10_putGlyf 36 = .ok (.iload_n 2, 1) := by decide +kernel
theorem dX10_putGlyf_37 : decode cX10_putGlyf 37 = .ok (.iaload, 1) := by decide +kernel
theorem dX10_putGlyf_38 : decode cX10_putGlyf 38 = .ok (.iconst 2, 1) := by decide +kernel
theorem dX10_putGlyf_39 : decode cX10_putGlyf 39 = .ok (.irem, 1) := by decide +kernel
theorem dX10_putGlyf_40 : decode cX10_putGlyf 40 = .ok (.ifCond .eq 11, 3) := by decide +kernel
theorem dX10_putGlyf_43 : decode cX10_putGlyf 43 = .ok (.aload_n 0, 1) := by decide +kernel
theorem dX10_putGlyf_44 : decode cX10_putGlyf 44 = .ok (.getfield 14, 3) := by decide +kernel
theorem dX10_putGlyf_47 : decode cX10_putGlyf 47 = .ok (.iconst 0, 1) := by decide +kernel
theorem dX10_putGlyf_48 : decode cX10_putGlyf 48 = .ok (.invokevirtual 140, 3) := by decide +kernel
theorem dX10_putGlyf_51 : decode cX10_putGlyf 51 = .ok (.iinc 2 1, 3) := by decide +kernel
theorem dX10_putGlyf_54 : decode cX10_putGlyf 54 = .ok (.goto (-52), 3) := by decide +kernel
theorem dX10_putGlyf_57 : decode cX10_putGlyf 57 = .ok (.return_, 1) := by decide +kernel
theorem dX10_putLoca_0 : decode cX10_putLoca 0 = .ok (.iconst 0, 1) := by decide +kernel
theorem dX10_putLoca_1 : decode cX10_putLoca 1 = .ok (.istore_n 1, 1) := by decide +kernel
theorem dX10_putLoca_2 : decode cX10_putLoca 2 = .ok (.iload_n 1, 1) := by decide +kernel
theorem dX10_putLoca_3 : decode cX10_putLoca 3 = .ok (.aload_n 0, 1) := by decide +kernel
theorem dX10_putLoca_4 : decode cX10_putLoca 4 = .ok (.getfield 37, 3) := by decide +kernel
theorem dX10_putLoca_7 : decode cX10_putLoca 7 = .ok (.invokevirtual 112, 3) := by decide +kernel
theorem dX10_putLoca_10 : decode cX10_putLoca 10 = .ok (.if_icmp .gt 50, 3) := by decide +kernel
theorem dX10_putLoca_13 : decode cX10_putLoca 13 = .ok (.aload_n 0, 1) := by decide +kernel
theorem dX10_putLoca_14 : decode cX10_putLoca 14 = .ok (.getfield 37, 3) := by decide +kernel
theorem dX10_putLoca_17 : decode cX10_putLoca 17 = .ok (.invokevirtual 127, 3) := by decide +kernel
theorem dX10_putLoca_20 : decode cX10_putLoca 20 = .ok (.ifCond .eq 19, 3) := by decide +kernel
theorem dX10_putLoca_23 : decode cX10_putLoca 23 = .ok (.aload_n 0, 1) := by decide +kernel
theorem dX10_putLoca_24 : decode cX10_putLoca 24 = .ok (.getfield 14, 3) := by decide +kernel
theorem dX10_putLoca_27 : decode cX10_putLoca 27 = .ok (.aload_n 0, 1) := by decide +kernel
theorem dX10_putLoca_28 : decode cX10_putLoca 28 = .ok (.getfield 27, 3) := by decide +kernel
theorem dX10_putLoca_31 : decode cX10_putLoca 31 = .ok (.iload_n 1, 1) := by decide +kernel
theorem dX10_putLoca_32 : decode cX10_putLoca 32 = .ok (.iaload, 1) := by decide +kernel
theorem dX10_putLoca_33 : decode cX10_putLoca 33 = .ok (.invokevirtual 182, 3) := by decide +kernel
theorem dX10_putLoca_36 : decode cX10_putLoca 36 = .ok (.goto 18, 3) := by decide +kernel
theorem dX10_putLoca_39 : decode cX10_putLoca 39 = .ok (.aload_n 0, 1) := by decide +kernel
theorem dX10_putLoca_40 : decode cX10_putLoca 40 = .ok (.getfield 14, 3) := by decide +kernel
theorem dX10_putLoca_43 : decode cX10_putLoca 43 = .ok (.aload_n 0, 1) := by decide +kernel
theorem dX10_putLoca_44 : decode cX10_putLoca 44 = .ok (.getfield 27, 3) := by decide +kernel
theorem dX10_putLoca_47 : decode cX10_putLoca 47 = .ok (.iload_n 1, 1) := by decide +kernel
theorem dX10_putLoca_48 : decode cX10_putLoca 48 = .ok (.iaload, 1) := by decide +kernel
theorem dX10_putLoca_49 : decode cX10_putLoca 49 = .ok (.iconst 2, 1) := by decide +kernel
theorem dX10_putLoca_50 : decode cX10_putLoca 50 = .ok (.idiv, 1) := by decide +kernel
theorem dX10_putLoca_51 : decode cX10_putLoca 51 = .ok (.invokevirtual 185, 3) := by decide +kernel
theorem dX10_putLoca_54 : decode cX10_putLoca 54 = .ok (.iinc 1 1, 3) := by decide +kernel
theorem dX10_putLoca_57 : decode cX10_putLoca 57 = .ok (.goto (-55), 3) := by decide +kernel
theorem dX10_putLoca_60 : decode cX10_putLoca 60 = .ok (.return_, 1) := by decide +kernel
theorem dX10_putFileSum_0 : decode cX10_putFileSum 0 = .ok (.aload_n 0, 1) := by decide +kernel
theorem dX10_putFileSum_1 : decode cX10_putFileSum 1 = .ok (.getfield 46, 3) := by decide +kernel
theorem dX10_putFileSum_4 : decode cX10_putFileSum 4 = .ok (.lconst 0, 1) := by decide +kernel
theorem dX10_putFileSum_5 : decode cX10_putFileSum 5 = .ok (.lconst 0, 1) := by decide +kernel
theorem dX10_putFileSum_6 : decode cX10_putFileSum 6 = .ok (.iconst 0, 1) := by decide +kernel
theorem dX10_putFileSum_7 : decode cX10_putFileSum 7 = .ok (.aload_n 0, 1) := by decide +kernel
theorem dX10_putFileSum_8 : decode cX10_putFileSum 8 = .ok (.getfield 14, 3) := by decide +kernel
theorem dX10_putFileSum_11 : decode cX10_putFileSum 11 = .ok (.invokevirtual 50, 3) := by decide +kernel
theorem dX10_putFileSum_14 : decode cX10_putFileSum 14 = .ok (.invokevirtual 147, 3) := by decide +kernel
theorem dX10_putFileSum_17 : decode cX10_putFileSum 17 = .ok (.aload_n 0, 1) := by decide +kernel
theorem dX10_putFileSum_18 : decode cX10_putFileSum 18 = .ok (.getfield 14, 3) := by decide +kernel
theorem dX10_putFileSum_21 : decode cX10_putFileSum 21 = .ok (.aload_n 0, 1) := by decide +kernel
theorem dX10_putFileSum_22 : decode cX10_putFileSum 22 = .ok (.getfield 175, 3) := by decide +kernel
theorem dX10_putFileSum_25 : decode cX10_putFileSum 25 = .ok (.bipush 8, 2) := by decide +kernel
theorem dX10_putFileSum_27 : decode cX10_putFileSum 27 = .ok (.iadd, 1) := by decide +kernel
theorem dX10_putFileSum_28 : decode cX10_putFileSum 28 = .ok (.ldc2_w 188, 3) := by decide +kernel
theorem dX10_putFileSum_31 : decode cX10_putFileSum 31 = .ok (.aload_n 0, 1) := by decide +kernel
theorem dX10_putFileSum_32 : decode cX10_putFileSum 32 = .ok (.getfield 46, 3) := by decide +kernel
theorem dX10_putFileSum_35 : decode cX10_putFileSum 35 = .ok (.iconst 0, 1) := by decide +kernel
theorem dX10_putFileSum_36 : decode cX10_putFileSum 36 = .ok (.invokevirtual 155, 3) := by decide +kernel
theorem dX10_putFileSum_39 : decode cX10_putFileSum 39 = .ok (.lsub, 1) := by decide +kernel
theorem dX10_putFileSum_40 : decode cX10_putFileSum 40 = .ok (.invokevirtual 151, 3) := by decide +kernel
theorem dX10_putFileSum_43 : decode cX10_putFileSum 43 = .ok (.return_, 1) := by decide +kernel
theorem dX11_init_0 : decode cX11_init 0 = .ok (.aload_n 0, 1) := by decide +kernel
theorem dX11_init_1 : decode cX11_init 1 = .ok (.invokespecial 1, 3) := by decide +kernel
theorem dX11_init_4 : decode cX11_init 4 = .ok (.aload_n 0, 1) := by decide +kernel
theorem dX11_init_5 : decode cX11_init 5 = .ok (.new 7, 3) := by decide +kernel
theorem dX11_init_8 : decode cX11_init 8 = .ok (.dup, 1) := by decide +kernel
theorem dX11_init_9 : decode cX11_init 9 = .ok (.sipush 1600, 3) := by decide +kernel
theorem dX11_init_12 : decode cX11_init 12 = .ok (.newarray .int, 2) := by decide +kernel
theorem dX11_init_14 : decode cX11_init 14 = .ok (.invokespecial 11, 3) := by decide +kernel
theorem dX11_init_17 : decode cX11_init 17 = .ok (.putfield 14, 3) := by decide +kernel
theorem dX11_init_20 : decode cX11_init 20 = .ok (.aload_n 0, 1) := by decide +kernel
theorem dX11_init_21 : decode cX11_init 21 = .ok (.new 18, 3) := by decide +kernel
theorem dX11_init_24 : decode cX11_init 24 = .ok (.dup, 1) := by decide +kernel
theorem dX11_init_25 : decode cX11_init 25 = .ok (.invokespecial 20, 3) := by decide +kernel
theorem dX11_init_28 : decode cX11_init 28 = .ok (.putfield 21, 3) := by decide +kernel
theorem dX11_init_31 : decode cX11_init 31 = .ok (.aload_n 0, 1) := by decide +kernel
theorem dX11_init_32 : decode cX11_init 32 = .ok (.new 25, 3) := by decide +kernel
theorem dX11_init_35 : decode cX11_init 35 = .ok (.dup, 1) := by decide +kernel
theorem dX11_init_36 : decode cX11_init 36 = .ok (.aload_n 0, 1) := by decide +kernel
theorem dX11_init_37 : decode cX11_init 37 = .ok (.getfield 14, 3) := by decide +kernel
theorem dX11_init_40 : decode cX11_init 40 = .ok (.invokespecial 27, 3) := by decide +kernel
theorem dX11_init_43 : decode cX11_init 43 = .ok (.putfield 30, 3) := by decide +kernel
theorem dX11_init_46 : decode cX11_init 46 = .ok (.aload_n 0, 1) := by decide +kernel
theorem dX11_init_47 : decode cX11_init 47 = .ok (.new 34, 3) := by decide +kernel
theorem dX11_init_50 : decode cX11_init 50 = .ok (.dup, 1) := by decide +kernel
theorem dX11_init_51 : decode cX11_init 51 = .ok (.aload_n 0, 1) := by decide +kernel
theorem dX11_init_52 : decode cX11_init 52 = .ok (.getfield 14, 3) := by decide +kernel
theorem dX11_init_55 : decode cX11_init 55 = .ok (.aload_n 0, 1) := by decide +kernel
theorem dX11_init_56 : decode cX11_init 56 = .ok (.getfield 30, 3) := by decide +kernel
theorem dX11_init_59 : decode cX11_init 59 = .ok (.invokespecial 36, 3) := by decide +kernel
theorem dX11_init_62 : decode cX11_init 62 = .ok (.putfield 39, 3) := by decide +kernel
theorem dX11_init_65 : decode cX11_init 65 = .ok (.aload_n 0, 1) := by decide +kernel
theorem dX11_init_66 : decode cX11_init 66 = .ok (.new 43, 3) := by decide +kernel
theorem dX11_init_69 : decode cX11_init 69 = .ok (.dup, 1) := by decide +kernel
theorem dX11_init_70 : decode cX11_init 70 = .ok (.aload_n 0, 1) := by decide +kernel
theorem dX11_init_71 : decode cX11_init 71 = .ok (.getfield 30, 3) := by decide +kernel
theorem dX11_init_74 : decode cX11_init 74 = .ok (.invokespecial 45, 3) := by decide +kernel
theorem dX11_init_77 : decode cX11_init 77 = .ok (.putfield 48, 3) := by decide +kernel
theorem dX11_init_80 : decode cX11_init 80 = .ok (.aload_n 0, 1) := by decide +kernel
theorem dX11_init_81 : decode cX11_init 81 = .ok (.new 52, 3) := by decide +kernel
theorem dX11_init_84 : decode cX11_init 84 = .ok (.dup, 1) := by decide +kernel
theorem dX11_init_85 : decode cX11_init 85 = .ok (.aload_n 0, 1) := by decide +kernel
theorem dX11_init_86 : decode cX11_init 86 = .ok (.getfield 14, 3) := by decide +kernel
theorem dX11_init_89 : decode cX11_init 89 = .ok (.aload_n 0, 1) := by decide +kernel
theorem dX11_init_90 : decode cX11_init 90 = .ok (.getfield 39, 3) := by decide +kernel
theorem dX11_init_93 : decode cX11_init 93 = .ok (.aload_n 0, 1) := by decide +kernel
theorem dX11_init_94 : decode cX11_init 94 = .ok (.getfield 21, 3) := by decide +kernel
theorem dX11_init_97 : decode cX11_init 97 = .ok (.invokespecial 54, 3) := by decide +kernel
theorem dX11_init_100 : decode cX11_init 100 = .ok (.putfield 57, 3) := by decide +kernel
theorem dX11_init_103 : decode cX11_init 103 = .ok (.aload_n 0, 1) := by decide +kernel
theorem dX11_init_104 : decode cX11_init 104 = .ok (.new 61, 3) := by decide +kernel
theorem dX11_init_107 : decode cX11_init 107 = .ok (.dup, 1) := by decide +kernel
theorem dX11_init_108 : decode cX11_init 108 = .ok (.invokespecial 63, 3) := by decide +kernel
theorem dX11_init_111 : decode cX11_init 111 = .ok (.putfield 64, 3) := by decide +kernel
theorem dX11_init_114 : decode cX11_init 114 = .ok (.aload_n 0, 1) := by decide +kernel
theorem dX11_init_115 : decode cX11_init 115 = .ok (.new 68, 3) := by decide +kernel
theorem dX11_init_118 : decode cX11_init 118 = .ok (.dup, 1) := by decide +kernel
theorem dX11_init_119 : decode cX11_init 119 = .ok (.aload_n 0, 1) := by decide +kernel
theorem dX11_init_120 : decode cX11_init 120 = .ok (.getfield 14, 3) := by decide +kernel
theorem dX11_init_123 : decode cX11_init 123 = .ok (.aload_n 0, 1) := by decide +kernel
theorem dX11_init_124 : decode cX11_init 124 = .ok (.getfield 30, 3) := by decide +kernel
theorem dX11_init_127 : decode cX11_init 127 = .ok (.aload_n 0, 1) := by decide +kernel
theorem dX11_init_128 : decode cX11_init 128 = .ok (.getfield 39, 3) := by decide +kernel
theorem dX11_init_131 : decode cX11_init 131 = .ok (.invokespecial 70, 3) := by decide +kernel
theorem dX11_init_134 : decode cX11_init 134 = .ok (.putfield 73, 3) := by decide +kernel
theorem dX11_init_137 : decode cX11_init 137 = .ok (.return_, 1) := by decide +kernel
theorem dX11_add_0 : decode cX11_add 0 = .ok (.iload_n 3, 1) := by decide +kernel
theorem dX11_add_1 : decode cX11_add 1 = .ok (.iconst 1, 1) := by decide +kernel
theorem dX11_add_2 : decode cX11_add 2 = .ok (.if_icmp .lt 24, 3) := by decide +kernel
theorem dX11_add_5 : decode cX11_add 5 = .ok (.iload_n 3, 1) := by decide +kernel
theorem dX11_add_6 : decode cX11_add 6 = .ok (.bipush 8, 2) := by decide +kernel
theorem dX11_add_8 : decode cX11_add 8 = .ok (.if_icmp .gt 18, 3) := by decide +kernel
theorem dX11_add_11 : decode cX11_add 11 = .ok (.aload_n 0, 1) := by decide +kernel
theorem dX11_add_12 : decode cX11_add 12 = .ok (.getfield 14, 3) := by decide +kernel
theorem dX11_add_15 : decode cX11_add 15 = .ok (.invokevirtual 77, 3) := by decide +kernel
theorem dX11_add_18 : decode cX11_add 18 = .ok (.iload_n 3, 1) := by decide +kernel
theorem dX11_add_19 : decode cX11_add 19 = .ok (.iadd, 1) := by decide +kernel
theorem dX11_add_20 : decode cX11_add 20 = .ok (.sipush 1600, 3) := by decide +kernel
theorem dX11_add_23 : decode cX11_add 23 = .ok (.if_icmp .le 5, 3) := by decide +kernel
theorem dX11_add_26 : decode cX11_add 26 = .ok (.iconst (-1), 1) := by decide +kernel
theorem dX11_add_27 : decode cX11_add 27 = .ok (.ireturn, 1) := by decide +kernel
theorem dX11_add_28 : decode cX11_add 28 = .ok (.iconst 0, 1) := by decide +kernel
theorem dX11_add_29 : decode cX11_add 29 = .ok (.istore 4, 2) := by decide +kernel
theorem dX11_add_31 : decode cX11_add 31 = .ok (.iload 4, 2) := by decide +kernel
theorem dX11_add_33 : decode cX11_add 33 = .ok (.iload_n 3, 1) := by decide +kernel
theorem dX11_add_34 : decode cX11_add 34 = .ok (.if_icmp .ge 24, 3) := by decide +kernel
theorem dX11_add_37 : decode cX11_add 37 = .ok (.aload_n 0, 1) := by decide +kernel
theorem dX11_add_38 : decode cX11_add 38 = .ok (.getfield 14, 3) := by decide +kernel
theorem dX11_add_41 : decode cX11_add 41 = .ok (.lload_n 1, 1) := by decide +kernel
theorem dX11_add_42 : decode cX11_add 42 = .ok (.bipush 8, 2) := by decide +kernel
theorem dX11_add_44 : decode cX11_add 44 = .ok (.iload 4, 2) := by decide +kernel
theorem dX11_add_46 : decode cX11_add 46 = .ok (.imul, 1) := by decide +kernel
theorem dX11_add_47 : decode cX11_add 47 = .ok (.lshr, 1) := by decide +kernel
theorem dX11_add_48 : decode cX11_add 48 = .ok (.l2i, 1) := by decide +kernel
theorem dX11_add_49 : decode cX11_add 49 = .ok (.invokevirtual 81, 3) := by decide +kernel
theorem dX11_add_52 : decode cX11_add 52 = .ok (.iinc 4 1, 3) := by decide +kernel
theorem dX11_add_55 : decode cX11_add 55 = .ok (.goto (-24), 3) := by decide +kernel
theorem dX11_add_58 : decode cX11_add 58 = .ok (.aload_n 0, 1) := by decide +kernel
theorem dX11_add_59 : decode cX11_add 59 = .ok (.getfield 14, 3) := by decide +kernel
theorem dX11_add_62 : decode cX11_add 62 = .ok (.invokevirtual 77, 3) := by decide +kernel
theorem dX11_add_65 : decode cX11_add 65 = .ok (.ireturn, 1) := by decide +kernel
theorem dX11_read_0 : decode cX11_read 0 = .ok (.aload_n 0, 1) := by decide +kernel
theorem dX11_read_1 : decode cX11_read 1 = .ok (.getfield 21, 3) := by decide +kernel
theorem dX11_read_4 : decode cX11_read 4 = .ok (.invokevirtual 85, 3) := by decide +kernel
theorem dX11_read_7 : decode cX11_read 7 = .ok (.aload_n 0, 1) := by decide +kernel
theorem dX11_read_8 : decode cX11_read 8 = .ok (.getfield 30, 3) := by decide +kernel
theorem dX11_read_11 : decode cX11_read 11 = .ok (.invokevirtual 88, 3) := by decide +kernel
theorem dX11_read_14 : decode cX11_read 14 = .ok (.istore_n 1, 1) := by decide +kernel
theorem dX11_read_15 : decode cX11_read 15 = .ok (.aload_n 0, 1) := by decide +kernel
theorem dX11_read_16 : decode cX11_read 16 = .ok (.getfield 30, 3) := by decide +kernel
theorem dX11_read_19 : decode cX11_read 19 = .ok (.aload_n 0, 1) := by decide +kernel
theorem dX11_read_20 : decode cX11_read 20 = .ok (.getfield 21, 3) := by decide +kernel
theorem dX11_read_23 : decode cX11_read 23 = .ok (.invokevirtual 91, 3) := by decide +kernel
theorem dX11_read_26 : decode cX11_read 26 = .ok (.aload_n 0, 1) := by decide +kernel
theorem dX11_read_27 : decode cX11_read 27 = .ok (.getfield 39, 3) := by decide +kernel
theorem dX11_read_30 : decode cX11_read 30 = .ok (.invokevirtual 95, 3) := by decide +kernel
theorem dX11_read_33 : decode cX11_read 33 = .ok (.aload_n 0, 1) := by decide +kernel
theorem dX11_read_34 : decode cX11_read 34 = .ok (.getfield 57, 3) := by decide +kernel
theorem dX11_read_37 : decode cX11_read 37 = .ok (.invokevirtual 97, 3) := by decide +kernel
theorem dX11_read_40 : decode cX11_read 40 = .ok (.iload_n 1, 1) := by decide +kernel
theorem dX11_read_41 : decode cX11_read 41 = .ok (.ireturn, 1) := by decide +kernel
theorem dX11_octet_0 : decode cX11_octet 0 = .ok (.aload_n 0, 1) := by decide +kernel
theorem dX11_octet_1 : decode cX11_octet 1 = .ok (.getfield 30, 3) := by decide +kernel
theorem dX11_octet_4 : decode cX11_octet 4 = .ok (.iload_n 1, 1) := by decide +kernel
theorem dX11_octet_5 : decode cX11_octet 5 = .ok (.invokevirtual 100, 3) := by decide +kernel
theorem dX11_octet_8 : decode cX11_octet 8 = .ok (.iload_n 2, 1) := by decide +kernel
theorem dX11_octet_9 : decode cX11_octet 9 = .ok (.i2l, 1) := by decide +kernel
theorem dX11_octet_10 : decode cX11_octet 10 = .ok (.invokevirtual 104, 3) := by decide +kernel
theorem dX11_octet_13 : decode cX11_octet 13 = .ok (.istore_n 3, 1) := by decide +kernel
theorem dX11_octet_14 : decode cX11_octet 14 = .ok (.iload_n 3, 1) := by decide +kernel
theorem dX11_octet_15 : decode cX11_octet 15 = .ok (.iconst (-1), 1) := by decide +kernel
theorem dX11_octet_16 : decode cX11_octet 16 = .ok (.if_icmp .ne 13, 3) := by decide +kernel
theorem dX11_octet_19 : decode cX11_octet 19 = .ok (.new 110, 3) := by decide +kernel
theorem dX11_octet_22 : decode cX11_octet 22 = .ok (.dup, 1) := by decide +kernel
theorem dX11_octet_23 : decode cX11_octet 23 = .ok (.ldc 112, 2) := by decide +kernel
theorem dX11_octet_25 : decode cX11_octet 25 = .ok (.invokespecial 114, 3) := by decide +kernel
theorem dX11_octet_28 : decode cX11_octet 28 = .ok (.athrow, 1) := by decide +kernel
theorem dX11_octet_29 : decode cX11_octet 29 = .ok (.iload_n 3, 1) := by decide +kernel
theorem dX11_octet_30 : decode cX11_octet 30 = .ok (.ireturn, 1) := by decide +kernel
theorem dX11_sum_0 : decode cX11_sum 0 = .ok (.aload_n 0, 1) := by decide +kernel
theorem dX11_sum_1 : decode cX11_sum 1 = .ok (.getfield 30, 3) := by decide +kernel
theorem dX11_sum_4 : decode cX11_sum 4 = .ok (.iload_n 1, 1) := by decide +kernel
theorem dX11_sum_5 : decode cX11_sum 5 = .ok (.invokevirtual 117, 3) := by decide +kernel
theorem dX11_sum_8 : decode cX11_sum 8 = .ok (.ifCond .eq 14, 3) := by decide +kernel
theorem dX11_sum_11 : decode cX11_sum 11 = .ok (.aload_n 0, 1) := by decide +kernel
theorem dX11_sum_12 : decode cX11_sum 12 = .ok (.getfield 30, 3) := by decide +kernel
theorem dX11_sum_15 : decode cX11_sum 15 = .ok (.iload_n 1, 1) := by decide +kernel
theorem dX11_sum_16 : decode cX11_sum 16 = .ok (.invokevirtual 121, 3) := by decide +kernel
theorem dX11_sum_19 : decode cX11_sum 19 = .ok (.goto 6, 3) := by decide +kernel
theorem dX11_sum_22 : decode cX11_sum 22 = .ok (.ldc2_w 125, 3) := by decide +kernel
theorem dX11_sum_25 : decode cX11_sum 25 = .ok (.lreturn, 1) := by decide +kernel
theorem dX11_count_0 : decode cX11_count 0 = .ok (.iload_n 1, 1) := by decide +kernel
theorem dX11_count_1 : decode cX11_count 1 = .ok (.tableswitch 81 0 4 #[35, 43, 51, 59, 70], 35) := by decide +kernel
theorem dX11_count_36 : decode cX11_count 36 = .ok (.aload_n 0, 1) := by decide +kernel
theorem dX11_count_37 : decode cX11_count 37 = .ok (.getfield 30, 3) := by decide +kernel
theorem dX11_count_40 : decode cX11_count 40 = .ok (.invokevirtual 127, 3) := by decide +kernel
theorem dX11_count_43 : decode cX11_count 43 = .ok (.ireturn, 1) := by decide +kernel
theorem dX11_count_44 : decode cX11_count 44 = .ok (.aload_n 0, 1) := by decide +kernel
theorem dX11_count_45 : decode cX11_count 45 = .ok (.getfield 39, 3) := by decide +kernel
theorem dX11_count_48 : decode cX11_count 48 = .ok (.invokevirtual 128, 3) := by decide +kernel
theorem dX11_count_51 : decode cX11_count 51 = .ok (.ireturn, 1) := by decide +kernel
theorem dX11_count_52 : decode cX11_count 52 = .ok (.aload_n 0, 1) := by decide +kernel
theorem dX11_count_53 : decode cX11_count 53 = .ok (.getfield 39, 3) := by decide +kernel
theorem dX11_count_56 : decode cX11_count 56 = .ok (.invokevirtual 129, 3) := by decide +kernel
theorem dX11_count_59 : decode cX11_count 59 = .ok (.ireturn, 1) := by decide +kernel
theorem dX11_count_60 : decode cX11_count 60 = .ok (.aload_n 0, 1) := by decide +kernel
theorem dX11_count_61 : decode cX11_count 61 = .ok (.getfield 57, 3) := by decide +kernel
theorem dX11_count_64 : decode cX11_count 64 = .ok (.invokevirtual 132, 3) := by decide +kernel
theorem dX11_count_67 : decode cX11_count 67 = .ok (.invokevirtual 136, 3) := by decide +kernel
theorem dX11_count_70 : decode cX11_count 70 = .ok (.ireturn, 1) := by decide +kernel
theorem dX11_count_71 : decode cX11_count 71 = .ok (.aload_n 0, 1) := by decide +kernel
theorem dX11_count_72 : decode cX11_count 72 = .ok (.getfield 57, 3) := by decide +kernel
theorem dX11_count_75 : decode cX11_count 75 = .ok (.invokevirtual 132, 3) := by decide +kernel
theorem dX11_count_78 : decode cX11_count 78 = .ok (.invokevirtual 139, 3) := by decide +kernel
theorem dX11_count_81 : decode cX11_count 81 = .ok (.ireturn, 1) := by decide +kernel
theorem dX11_count_82 : decode cX11_count 82 = .ok (.iconst (-1), 1) := by decide +kernel
theorem dX11_count_83 : decode cX11_count 83 = .ok (.ireturn, 1) := by decide +kernel
theorem dX11_map_0 : decode cX11_map 0 = .ok (.iload_n 1, 1) := by decide +kernel
theorem dX11_map_1 : decode cX11_map 1 = .ok (.ifCond .ge 7, 3) := by decide +kernel
theorem dX11_map_4 : decode cX11_map 4 = .ok (.lconst 0, 1) := by decide +kernel
theorem dX11_map_5 : decode cX11_map 5 = .ok (.goto 11, 3) := by decide +kernel
theorem dX11_map_8 : decode cX11_map 8 = .ok (.aload_n 0, 1) := by decide +kernel
theorem dX11_map_9 : decode cX11_map 9 = .ok (.getfield 48, 3) := by decide +kernel
theorem dX11_map_12 : decode cX11_map 12 = .ok (.iload_n 1, 1) := by decide +kernel
theorem dX11_map_13 : decode cX11_map 13 = .ok (.invokevirtual 142, 3) := by decide +kernel
theorem dX11_map_16 : decode cX11_map 16 = .ok (.lstore_n 2, 1) := by decide +kernel
theorem dX11_map_17 : decode cX11_map 17 = .ok (.lload_n 2, 1) := by decide +kernel
theorem dX11_map_18 : decode cX11_map 18 = .ok (.lconst 0, 1) := by decide +kernel
theorem dX11_map_19 : decode cX11_map 19 = .ok (.lcmp, 1) := by decide +kernel
theorem dX11_map_20 : decode cX11_map 20 = .ok (.ifCond .le 21, 3) := by decide +kernel
theorem dX11_map_23 : decode cX11_map 23 = .ok (.lload_n 2, 1) := by decide +kernel
theorem dX11_map_24 : decode cX11_map 24 = .ok (.aload_n 0, 1) := by decide +kernel
theorem dX11_map_25 : decode cX11_map 25 = .ok (.getfield 39, 3) := by decide +kernel
theorem dX11_map_28 : decode cX11_map 28 = .ok (.invokevirtual 128, 3) := by decide +kernel
theorem dX11_map_31 : decode cX11_map 31 = .ok (.i2l, 1) := by decide +kernel
theorem dX11_map_32 : decode cX11_map 32 = .ok (.lcmp, 1) := by decide +kernel
theorem dX11_map_33 : decode cX11_map 33 = .ok (.ifCond .ge 8, 3) := by decide +kernel
theorem dX11_map_36 : decode cX11_map 36 = .ok (.lload_n 2, 1) := by decide +kernel
theorem dX11_map_37 : decode cX11_map 37 = .ok (.l2i, 1) := by decide +kernel
theorem dX11_map_38 : decode cX11_map 38 = .ok (.goto 4, 3) := by decide +kernel
theorem dX11_map_41 : decode cX11_map 41 = .ok (.iconst 0, 1) := by decide +kernel
theorem dX11_map_42 : decode cX11_map 42 = .ok (.ireturn, 1) := by decide +kernel
theorem dX11_run_0 : decode cX11_run 0 = .ok (.aload_n 0, 1) := by decide +kernel
theorem dX11_run_1 : decode cX11_run 1 = .ok (.getfield 21, 3) := by decide +kernel
theorem dX11_run_4 : decode cX11_run 4 = .ok (.invokevirtual 85, 3) := by decide +kernel
theorem dX11_run_7 : decode cX11_run 7 = .ok (.aload_n 0, 1) := by decide +kernel
theorem dX11_run_8 : decode cX11_run 8 = .ok (.getfield 57, 3) := by decide +kernel
theorem dX11_run_11 : decode cX11_run 11 = .ok (.iload_n 1, 1) := by decide +kernel
theorem dX11_run_12 : decode cX11_run 12 = .ok (.invokevirtual 145, 3) := by decide +kernel
theorem dX11_run_15 : decode cX11_run 15 = .ok (.aload_n 0, 1) := by decide +kernel
theorem dX11_run_16 : decode cX11_run 16 = .ok (.getfield 64, 3) := by decide +kernel
theorem dX11_run_19 : decode cX11_run 19 = .ok (.aload_n 0, 1) := by decide +kernel
theorem dX11_run_20 : decode cX11_run 20 = .ok (.getfield 57, 3) := by decide +kernel
theorem dX11_run_23 : decode cX11_run 23 = .ok (.invokevirtual 132, 3) := by decide +kernel
theorem dX11_run_26 : decode cX11_run 26 = .ok (.invokevirtual 148, 3) := by decide +kernel
theorem dX11_run_29 : decode cX11_run 29 = .ok (.aload_n 0, 1) := by decide +kernel
theorem dX11_run_30 : decode cX11_run 30 = .ok (.getfield 39, 3) := by decide +kernel
theorem dX11_run_33 : decode cX11_run 33 = .ok (.iload_n 1, 1) := by decide +kernel
theorem dX11_run_34 : decode cX11_run 34 = .ok (.invokevirtual 152, 3) := by decide +kernel
theorem dX11_run_37 : decode cX11_run 37 = .ok (.ifCond .eq 13, 3) := by decide +kernel
theorem dX11_run_40 : decode cX11_run 40 = .ok (.aload_n 0, 1) := by decide +kernel
theorem dX11_run_41 : decode cX11_run 41 = .ok (.getfield 64, 3) := by decide +kernel
theorem dX11_run_44 : decode cX11_run 44 = .ok (.invokevirtual 153, 3) := by decide +kernel
theorem dX11_run_47 : decode cX11_run 47 = .ok (.goto 4, 3) := by decide +kernel
theorem dX11_run_50 : decode cX11_run 50 = .ok (.iconst (-1), 1) := by decide +kernel
theorem dX11_run_51 : decode cX11_run 51 = .ok (.ireturn, 1) := by decide +kernel
theorem dX11_piece_0 : decode cX11_piece 0 = .ok (.aload_n 0, 1) := by decide +kernel
theorem dX11_piece_1 : decode cX11_piece 1 = .ok (.getfield 64, 3) := by decide +kernel
theorem dX11_piece_4 : decode cX11_piece 4 = .ok (.iload_n 1, 1) := by decide +kernel
theorem dX11_piece_5 : decode cX11_piece 5 = .ok (.iload_n 2, 1) := by decide +kernel
theorem dX11_piece_6 : decode cX11_piece 6 = .ok (.invokevirtual 154, 3) := by decide +kernel
theorem dX11_piece_9 : decode cX11_piece 9 = .ok (.ifCond .ne 13, 3) := by decide +kernel
theorem dX11_piece_12 : decode cX11_piece 12 = .ok (.new 157, 3) := by decide +kernel
theorem dX11_piece_15 : decode cX11_piece 15 = .ok (.dup, 1) := by decide +kernel
theorem dX11_piece_16 : decode cX11_piece 16 = .ok (.ldc 159, 2) := by decide +kernel
theorem dX11_piece_18 : decode cX11_piece 18 = .ok (.invokespecial 161, 3) := by decide +kernel
theorem dX11_piece_21 : decode cX11_piece 21 = .ok (.athrow, 1) := by decide +kernel
theorem dX11_piece_22 : decode cX11_piece 22 = .ok (.aload_n 0, 1) := by decide +kernel
theorem dX11_piece_23 : decode cX11_piece 23 = .ok (.getfield 64, 3) := by decide +kernel
theorem dX11_piece_26 : decode cX11_piece 26 = .ok (.iload_n 1, 1) := by decide +kernel
theorem dX11_piece_27 : decode cX11_piece 27 = .ok (.iload_n 2, 1) := by decide +kernel
theorem dX11_piece_28 : decode cX11_piece 28 = .ok (.invokevirtual 162, 3) := by decide +kernel
theorem dX11_piece_31 : decode cX11_piece 31 = .ok (.ireturn, 1) := by decide +kernel
theorem dX11_told_0 : decode cX11_told 0 = .ok (.iload_n 1, 1) := by decide +kernel
theorem dX11_told_1 : decode cX11_told 1 = .ok (.iconst (-1), 1) := by decide +kernel
theorem dX11_told_2 : decode cX11_told 2 = .ok (.if_icmp .ne 11, 3) := by decide +kernel
theorem dX11_told_5 : decode cX11_told 5 = .ok (.aload_n 0, 1) := by decide +kernel
theorem dX11_told_6 : decode cX11_told 6 = .ok (.getfield 21, 3) := by decide +kernel
theorem dX11_told_9 : decode cX11_told 9 = .ok (.invokevirtual 165, 3) := by decide +kernel
theorem dX11_told_12 : decode cX11_told 12 = .ok (.ireturn, 1) := by decide +kernel
theorem dX11_told_13 : decode cX11_told 13 = .ok (.aload_n 0, 1) := by decide +kernel
theorem dX11_told_14 : decode cX11_told 14 = .ok (.getfield 21, 3) := by decide +kernel
theorem dX11_told_17 : decode cX11_told 17 = .ok (.iload_n 1, 1) := by decide +kernel
theorem dX11_told_18 : decode cX11_told 18 = .ok (.iload_n 2, 1) := by decide +kernel
theorem dX11_told_19 : decode cX11_told 19 = .ok (.invokevirtual 166, 3) := by decide +kernel
theorem dX11_told_22 : decode cX11_told 22 = .ok (.ifCond .ne 13, 3) := by decide +kernel
theorem dX11_told_25 : decode cX11_told 25 = .ok (.new 157, 3) := by decide +kernel
theorem dX11_told_28 : decode cX11_told 28 = .ok (.dup, 1) := by decide +kernel
theorem dX11_told_29 : decode cX11_told 29 = .ok (.ldc 167, 2) := by decide +kernel
theorem dX11_told_31 : decode cX11_told 31 = .ok (.invokespecial 161, 3) := by decide +kernel
theorem dX11_told_34 : decode cX11_told 34 = .ok (.athrow, 1) := by decide +kernel
theorem dX11_told_35 : decode cX11_told 35 = .ok (.aload_n 0, 1) := by decide +kernel
theorem dX11_told_36 : decode cX11_told 36 = .ok (.getfield 21, 3) := by decide +kernel
theorem dX11_told_39 : decode cX11_told 39 = .ok (.iload_n 1, 1) := by decide +kernel
theorem dX11_told_40 : decode cX11_told 40 = .ok (.iload_n 2, 1) := by decide +kernel
theorem dX11_told_41 : decode cX11_told 41 = .ok (.invokevirtual 169, 3) := by decide +kernel
theorem dX11_told_44 : decode cX11_told 44 = .ok (.ireturn, 1) := by decide +kernel
theorem dX11_width_0 : decode cX11_width 0 = .ok (.aload_n 0, 1) := by decide +kernel
theorem dX11_width_1 : decode cX11_width 1 = .ok (.getfield 30, 3) := by decide +kernel
theorem dX11_width_4 : decode cX11_width 4 = .ok (.ldc2_w 170, 3) := by decide +kernel
theorem dX11_width_7 : decode cX11_width 7 = .ok (.invokevirtual 172, 3) := by decide +kernel
theorem dX11_width_10 : decode cX11_width 10 = .ok (.ldc2_w 176, 3) := by decide +kernel
theorem dX11_width_13 : decode cX11_width 13 = .ok (.invokevirtual 178, 3) := by decide +kernel
theorem dX11_width_16 : decode cX11_width 16 = .ok (.istore_n 2, 1) := by decide +kernel
theorem dX11_width_17 : decode cX11_width 17 = .ok (.aload_n 0, 1) := by decide +kernel
theorem dX11_width_18 : decode cX11_width 18 = .ok (.getfield 39, 3) := by decide +kernel
theorem dX11_width_21 : decode cX11_width 21 = .ok (.iload_n 1, 1) := by decide +kernel
theorem dX11_width_22 : decode cX11_width 22 = .ok (.invokevirtual 152, 3) := by decide +kernel
theorem dX11_width_25 : decode cX11_width 25 = .ok (.ifCond .eq 7, 3) := by decide +kernel
theorem dX11_width_28 : decode cX11_width 28 = .ok (.iload_n 2, 1) := by decide +kernel
theorem dX11_width_29 : decode cX11_width 29 = .ok (.ifCond .gt 5, 3) := by decide +kernel
theorem dX11_width_32 : decode cX11_width 32 = .ok (.iconst 0, 1) := by decide +kernel
theorem dX11_width_33 : decode cX11_width 33 = .ok (.ireturn, 1) := by decide +kernel
theorem dX11_width_34 : decode cX11_width 34 = .ok (.aload_n 0, 1) := by decide +kernel
theorem dX11_width_35 : decode cX11_width 35 = .ok (.getfield 30, 3) := by decide +kernel
theorem dX11_width_38 : decode cX11_width 38 = .ok (.ldc2_w 181, 3) := by decide +kernel
theorem dX11_width_41 : decode cX11_width 41 = .ok (.invokevirtual 172, 3) := by decide +kernel
theorem dX11_width_44 : decode cX11_width 44 = .ok (.ldc2_w 183, 3) := by decide +kernel
theorem dX11_width_47 : decode cX11_width 47 = .ok (.iload_n 1, 1) := by decide +kernel
theorem dX11_width_48 : decode cX11_width 48 = .ok (.iload_n 2, 1) := by decide +kernel
theorem dX11_width_49 : decode cX11_width 49 = .ok (.iconst 1, 1) := by decide +kernel
theorem dX11_width_50 : decode cX11_width 50 = .ok (.isub, 1) := by decide +kernel
theorem dX11_width_51 : decode cX11_width 51 = .ok (.invokestatic 185, 3) := by decide +kernel
theorem dX11_width_54 : decode cX11_width 54 = .ok (.i2l, 1) := by decide +kernel
theorem dX11_width_55 : decode cX11_width 55 = .ok (.lmul, 1) := by decide +kernel
theorem dX11_width_56 : decode cX11_width 56 = .ok (.invokevirtual 178, 3) := by decide +kernel
theorem dX11_width_59 : decode cX11_width 59 = .ok (.istore_n 3, 1) := by decide +kernel
theorem dX11_width_60 : decode cX11_width 60 = .ok (.iload_n 3, 1) := by decide +kernel
theorem dX11_width_61 : decode cX11_width 61 = .ok (.iconst (-1), 1) := by decide +kernel
theorem dX11_width_62 : decode cX11_width 62 = .ok (.if_icmp .ne 7, 3) := by decide +kernel
theorem dX11_width_65 : decode cX11_width 65 = .ok (.iconst 0, 1) := by decide +kernel
theorem dX11_width_66 : decode cX11_width 66 = .ok (.goto 4, 3) := by decide +kernel
theorem dX11_width_69 : decode cX11_width 69 = .ok (.iload_n 3, 1) := by decide +kernel
theorem dX11_width_70 : decode cX11_width 70 = .ok (.ireturn, 1) := by decide +kernel
theorem dX11_kern_0 : decode cX11_kern 0 = .ok (.aload_n 0, 1) := by decide +kernel
theorem dX11_kern_1 : decode cX11_kern 1 = .ok (.getfield 30, 3) := by decide +kernel
theorem dX11_kern_4 : decode cX11_kern 4 = .ok (.ldc2_w 190, 3) := by decide +kernel
theorem dX11_kern_7 : decode cX11_kern 7 = .ok (.invokevirtual 172, 3) := by decide +kernel
theorem dX11_kern_10 : decode cX11_kern 10 = .ok (.astore_n 3, 1) := by decide +kernel
theorem dX11_kern_11 : decode cX11_kern 11 = .ok (.aload_n 3, 1) := by decide +kernel
theorem dX11_kern_12 : decode cX11_kern 12 = .ok (.ldc2_w 192, 3) := by decide +kernel
theorem dX11_kern_15 : decode cX11_kern 15 = .ok (.invokevirtual 178, 3) := by decide +kernel
theorem dX11_kern_18 : decode cX11_kern 18 = .ok (.istore 4, 2) := by decide +kernel
theorem dX11_kern_20 : decode cX11_kern 20 = .ok (.iconst 0, 1) := by decide +kernel
theorem dX11_kern_21 : decode cX11_kern 21 = .ok (.istore 5, 2) := by decide +kernel
theorem dX11_kern_23 : decode cX11_kern 23 = .ok (.iload 5, 2) := by decide +kernel
theorem dX11_kern_25 : decode cX11_kern 25 = .ok (.iload 4, 2) := by decide +kernel
theorem dX11_kern_27 : decode cX11_kern 27 = .ok (.if_icmp .ge 68, 3) := by decide +kernel
theorem dX11_kern_30 : decode cX11_kern 30 = .ok (.bipush 18, 2) := by decide +kernel
theorem dX11_kern_32 : decode cX11_kern 32 = .ok (.bipush 6, 2) := by decide +kernel
theorem dX11_kern_34 : decode cX11_kern 34 = .ok (.iload 5, 2) := by decide +kernel
theorem dX11_kern_36 : decode cX11_kern 36 = .ok (.imul, 1) := by decide +kernel
theorem dX11_kern_37 : decode cX11_kern 37 = .ok (.iadd, 1) := by decide +kernel
theorem dX11_kern_38 : decode cX11_kern 38 = .ok (.istore 6, 2) := by decide +kernel
theorem dX11_kern_40 : decode cX11_kern 40 = .ok (.aload_n 3, 1) := by decide +kernel
theorem dX11_kern_41 : decode cX11_kern 41 = .ok (.iload 6, 2) := by decide +kernel
theorem dX11_kern_43 : decode cX11_kern 43 = .ok (.iconst 4, 1) := by decide +kernel
theorem dX11_kern_44 : decode cX11_kern 44 = .ok (.iadd, 1) := by decide +kernel
theorem dX11_kern_45 : decode cX11_kern 45 = .ok (.i2l, 1) := by decide +kernel
theorem dX11_kern_46 : decode cX11_kern 46 = .ok (.invokevirtual 178, 3) := by decide +kernel
theorem dX11_kern_49 : decode cX11_kern 49 = .ok (.istore 7, 2) := by decide +kernel
theorem dX11_kern_51 : decode cX11_kern 51 = .ok (.iload 7, 2) := by decide +kernel
theorem dX11_kern_53 : decode cX11_kern 53 = .ok (.iconst (-1), 1) := by decide +kernel
theorem dX11_kern_54 : decode cX11_kern 54 = .ok (.if_icmp .ne 5, 3) := by decide +kernel
theorem dX11_kern_57 : decode cX11_kern 57 = .ok (.iconst 0, 1) := by decide +kernel
theorem dX11_kern_58 : decode cX11_kern 58 = .ok (.ireturn, 1) := by decide +kernel
theorem dX11_kern_59 : decode cX11_kern 59 = .ok (.aload_n 3, 1) := by decide +kernel
theorem dX11_kern_60 : decode cX11_kern 60 = .ok (.iload 6, 2) := by decide +kernel
theorem dX11_kern_62 : decode cX11_kern 62 = .ok (.i2l, 1) := by decide +kernel
theorem dX11_kern_63 : decode cX11_kern 63 = .ok (.invokevirtual 178, 3) := by decide +kernel
theorem dX11_kern_66 : decode cX11_kern 66 = .ok (.iload_n 1, 1) := by decide +kernel
theorem dX11_kern_67 : decode cX11_kern 67 = .ok (.if_icmp .ne 22, 3) := by decide +kernel
theorem dX11_kern_70 : decode cX11_kern 70 = .ok (.aload_n 3, 1) := by decide +kernel
theorem dX11_kern_71 : decode cX11_kern 71 = .ok (.iload 6, 2) := by decide +kernel
theorem dX11_kern_73 : decode cX11_kern 73 = .ok (.iconst 2, 1) := by decide +kernel
theorem dX11_kern_74 : decode cX11_kern 74 = .ok (.iadd, 1) := by decide +kernel
theorem dX11_kern_75 : decode cX11_kern 75 = .ok (.i2l, 1) := by decide +kernel
theorem dX11_kern_76 : decode cX11_kern 76 = .ok (.invokevirtual 178, 3) := by decide +kernel
theorem dX11_kern_79 : decode cX11_kern 79 = .ok (.iload_n 2, 1) := by decide +kernel
theorem dX11_kern_80 : decode cX11_kern 80 = .ok (.if_icmp .ne 9, 3) := by decide +kernel
theorem dX11_kern_83 : decode cX11_kern 83 = .ok (.iload 7, 2) := by decide +kernel
theorem dX11_kern_85 : decode cX11_kern 85 = .ok (.invokestatic 194, 3) := by decide +kernel
theorem dX11_kern_88 : decode cX11_kern 88 = .ok (.ireturn, 1) := by decide +kernel
theorem dX11_kern_89 : decode cX11_kern 89 = .ok (.iinc 5 1, 3) := by decide +kernel
theorem dX11_kern_92 : decode cX11_kern 92 = .ok (.goto (-69), 3) := by decide +kernel
theorem dX11_kern_95 : decode cX11_kern 95 = .ok (.iconst 0, 1) := by decide +kernel
theorem dX11_kern_96 : decode cX11_kern 96 = .ok (.ireturn, 1) := by decide +kernel
theorem dX11_scaled_0 : decode cX11_scaled 0 = .ok (.iload_n 2, 1) := by decide +kernel
theorem dX11_scaled_1 : decode cX11_scaled 1 = .ok (.ifCond .lt 10, 3) := by decide +kernel
theorem dX11_scaled_4 : decode cX11_scaled 4 = .ok (.iload_n 2, 1) := by decide +kernel
theorem dX11_scaled_5 : decode cX11_scaled 5 = .ok (.sipush 1000, 3) := by decide +kernel
theorem dX11_scaled_8 : decode cX11_scaled 8 = .ok (.if_icmp .le 7, 3) := by decide +kernel
theorem dX11_scaled_11 : decode cX11_scaled 11 = .ok (.ldc2_w 125, 3) := by decide +kernel
theorem dX11_scaled_14 : decode cX11_scaled 14 = .ok (.lreturn, 1) := by decide +kernel
theorem dX11_scaled_15 : decode cX11_scaled 15 = .ok (.aload_n 0, 1) := by decide +kernel
theorem dX11_scaled_16 : decode cX11_scaled 16 = .ok (.getfield 30, 3) := by decide +kernel
theorem dX11_scaled_19 : decode cX11_scaled 19 = .ok (.ldc2_w 198, 3) := by decide +kernel
theorem dX11_scaled_22 : decode cX11_scaled 22 = .ok (.invokevirtual 172, 3) := by decide +kernel
theorem dX11_scaled_25 : decode cX11_scaled 25 = .ok (.ldc2_w 200, 3) := by decide +kernel
theorem dX11_scaled_28 : decode cX11_scaled 28 = .ok (.invokevirtual 178, 3) := by decide +kernel
theorem dX11_scaled_31 : decode cX11_scaled 31 = .ok (.istore_n 3, 1) := by decide +kernel
theorem dX11_scaled_32 : decode cX11_scaled 32 = .ok (.iload_n 3, 1) := by decide +kernel
theorem dX11_scaled_33 : decode cX11_scaled 33 = .ok (.ifCond .gt 5, 3) := by decide +kernel
theorem dX11_scaled_36 : decode cX11_scaled 36 = .ok (.lconst 0, 1) := by decide +kernel
theorem dX11_scaled_37 : decode cX11_scaled 37 = .ok (.lreturn, 1) := by decide +kernel
theorem dX11_scaled_38 : decode cX11_scaled 38 = .ok (.ldc2_w 202, 3) := by decide +kernel
theorem dX11_scaled_41 : decode cX11_scaled 41 = .ok (.iload_n 1, 1) := by decide +kernel
theorem dX11_scaled_42 : decode cX11_scaled 42 = .ok (.i2l, 1) := by decide +kernel
theorem dX11_scaled_43 : decode cX11_scaled 43 = .ok (.lmul, 1) := by decide +kernel
theorem dX11_scaled_44 : decode cX11_scaled 44 = .ok (.iload_n 2, 1) := by decide +kernel
theorem dX11_scaled_45 : decode cX11_scaled 45 = .ok (.i2l, 1) := by decide +kernel
theorem dX11_scaled_46 : decode cX11_scaled 46 = .ok (.lmul, 1) := by decide +kernel
theorem dX11_scaled_47 : decode cX11_scaled 47 = .ok (.iload_n 3, 1) := by decide +kernel
theorem dX11_scaled_48 : decode cX11_scaled 48 = .ok (.i2l, 1) := by decide +kernel
theorem dX11_scaled_49 : decode cX11_scaled 49 = .ok (.ladd, 1) := by decide +kernel
theorem dX11_scaled_50 : decode cX11_scaled 50 = .ok (.ldc2_w 204, 3) := by decide +kernel
theorem dX11_scaled_53 : decode cX11_scaled 53 = .ok (.iload_n 3, 1) := by decide +kernel
theorem dX11_scaled_54 : decode cX11_scaled 54 = .ok (.i2l, 1) := by decide +kernel
theorem dX11_scaled_55 : decode cX11_scaled 55 = .ok (.lmul, 1) := by decide +kernel
theorem dX11_scaled_56 : decode cX11_scaled 56 = .ok (.invokestatic 206, 3) := by decide +kernel
theorem dX11_scaled_59 : decode cX11_scaled 59 = .ok (.lreturn, 1) := by decide +kernel
theorem dX11_cut_0 : decode cX11_cut 0 = .ok (.aload_n 0, 1) := by decide +kernel
theorem dX11_cut_1 : decode cX11_cut 1 = .ok (.getfield 39, 3) := by decide +kernel
theorem dX11_cut_4 : decode cX11_cut 4 = .ok (.iload_n 1, 1) := by decide +kernel
theorem dX11_cut_5 : decode cX11_cut 5 = .ok (.invokevirtual 152, 3) := by decide +kernel
theorem dX11_cut_8 : decode cX11_cut 8 = .ok (.ifCond .ne 5, 3) := by decide +kernel
theorem dX11_cut_11 : decode cX11_cut 11 = .ok (.iconst (-1), 1) := by decide +kernel
theorem dX11_cut_12 : decode cX11_cut 12 = .ok (.ireturn, 1) := by decide +kernel
theorem dX11_cut_13 : decode cX11_cut 13 = .ok (.aload_n 0, 1) := by decide +kernel
theorem dX11_cut_14 : decode cX11_cut 14 = .ok (.getfield 39, 3) := by decide +kernel
theorem dX11_cut_17 : decode cX11_cut 17 = .ok (.iload_n 1, 1) := by decide +kernel
theorem dX11_cut_18 : decode cX11_cut 18 = .ok (.invokevirtual 210, 3) := by decide +kernel
theorem dX11_cut_21 : decode cX11_cut 21 = .ok (.aload_n 0, 1) := by decide +kernel
theorem dX11_cut_22 : decode cX11_cut 22 = .ok (.getfield 39, 3) := by decide +kernel
theorem dX11_cut_25 : decode cX11_cut 25 = .ok (.invokevirtual 129, 3) := by decide +kernel
theorem dX11_cut_28 : decode cX11_cut 28 = .ok (.ireturn, 1) := by decide +kernel
theorem dX11_write_0 : decode cX11_write 0 = .ok (.aload_n 0, 1) := by decide +kernel
theorem dX11_write_1 : decode cX11_write 1 = .ok (.getfield 73, 3) := by decide +kernel
theorem dX11_write_4 : decode cX11_write 4 = .ok (.invokevirtual 213, 3) := by decide +kernel
theorem dX11_write_7 : decode cX11_write 7 = .ok (.ireturn, 1) := by decide +kernel
theorem dX11_at_0 : decode cX11_at 0 = .ok (.aload_n 0, 1) := by decide +kernel
theorem dX11_at_1 : decode cX11_at 1 = .ok (.getfield 73, 3) := by decide +kernel
theorem dX11_at_4 : decode cX11_at 4 = .ok (.iload_n 1, 1) := by decide +kernel
theorem dX11_at_5 : decode cX11_at 5 = .ok (.invokevirtual 215, 3) := by decide +kernel
theorem dX11_at_8 : decode cX11_at 8 = .ok (.ireturn, 1) := by decide +kernel
theorem dX11_signed_0 : decode cX11_signed 0 = .ok (.iload_n 0, 1) := by decide +kernel
theorem dX11_signed_1 : decode cX11_signed 1 = .ok (.ldc 217, 2) := by decide +kernel
theorem dX11_signed_3 : decode cX11_signed 3 = .ok (.if_icmp .lt 10, 3) := by decide +kernel
theorem dX11_signed_6 : decode cX11_signed 6 = .ok (.iload_n 0, 1) := by decide +kernel
theorem dX11_signed_7 : decode cX11_signed 7 = .ok (.ldc 218, 2) := by decide +kernel
theorem dX11_signed_9 : decode cX11_signed 9 = .ok (.isub, 1) := by decide +kernel
theorem dX11_signed_10 : decode cX11_signed 10 = .ok (.goto 4, 3) := by decide +kernel
theorem dX11_signed_13 : decode cX11_signed 13 = .ok (.iload_n 0, 1) := by decide +kernel
theorem dX11_signed_14 : decode cX11_signed 14 = .ok (.ireturn, 1) := by decide +kernel
theorem dX12_init_0 : decode cX12_init 0 = .ok (.aload_n 0, 1) := by decide +kernel
theorem dX12_init_1 : decode cX12_init 1 = .ok (.invokespecial 1, 3) := by decide +kernel
theorem dX12_init_4 : decode cX12_init 4 = .ok (.aload_n 0, 1) := by decide +kernel
theorem dX12_init_5 : decode cX12_init 5 = .ok (.sipush 1600, 3) := by decide +kernel
theorem dX12_init_8 : decode cX12_init 8 = .ok (.newarray .int, 2) := by decide +kernel
theorem dX12_init_10 : decode cX12_init 10 = .ok (.putfield 7, 3) := by decide +kernel
theorem dX12_init_13 : decode cX12_init 13 = .ok (.aload_n 0, 1) := by decide +kernel
theorem dX12_init_14 : decode cX12_init 14 = .ok (.bipush 24, 2) := by decide +kernel
theorem dX12_init_16 : decode cX12_init 16 = .ok (.newarray .long, 2) := by decide +kernel
theorem dX12_init_18 : decode cX12_init 18 = .ok (.putfield 13, 3) := by decide +kernel
theorem dX12_init_21 : decode cX12_init 21 = .ok (.aload_n 0, 1) := by decide +kernel
theorem dX12_init_22 : decode cX12_init 22 = .ok (.bipush 24, 2) := by decide +kernel
theorem dX12_init_24 : decode cX12_init 24 = .ok (.newarray .long, 2) := by decide +kernel
theorem dX12_init_26 : decode cX12_init 26 = .ok (.putfield 17, 3) := by decide +kernel
theorem dX12_init_29 : decode cX12_init 29 = .ok (.aload_n 0, 1) := by decide +kernel
theorem dX12_init_30 : decode cX12_init 30 = .ok (.bipush 24, 2) := by decide +kernel
theorem dX12_init_32 : decode cX12_init 32 = .ok (.newarray .int, 2) := by decide +kernel
theorem dX12_init_34 : decode cX12_init 34 = .ok (.putfield 20, 3) := by decide +kernel
theorem dX12_init_37 : decode cX12_init 37 = .ok (.aload_n 0, 1) := by decide +kernel
theorem dX12_init_38 : decode cX12_init 38 = .ok (.bipush 24, 2) := by decide +kernel
theorem dX12_init_40 : decode cX12_init 40 = .ok (.newarray .int, 2) := by decide +kernel
theorem dX12_init_42 : decode cX12_init 42 = .ok (.putfield 23, 3) := by decide +kernel
theorem dX12_init_45 : decode cX12_init 45 = .ok (.aload_n 0, 1) := by decide +kernel
theorem dX12_init_46 : decode cX12_init 46 = .ok (.sipush 200, 3) := by decide +kernel
theorem dX12_init_49 : decode cX12_init 49 = .ok (.newarray .boolean, 2) := by decide +kernel
theorem dX12_init_51 : decode cX12_init 51 = .ok (.putfield 26, 3) := by decide +kernel
theorem dX12_init_54 : decode cX12_init 54 = .ok (.aload_n 0, 1) := by decide +kernel
theorem dX12_init_55 : decode cX12_init 55 = .ok (.sipush 200, 3) := by decide +kernel
theorem dX12_init_58 : decode cX12_init 58 = .ok (.newarray .boolean, 2) := by decide +kernel
theorem dX12_init_60 : decode cX12_init 60 = .ok (.putfield 30, 3) := by decide +kernel
theorem dX12_init_63 : decode cX12_init 63 = .ok (.aload_n 0, 1) := by decide +kernel
theorem dX12_init_64 : decode cX12_init 64 = .ok (.bipush 100, 2) := by decide +kernel
theorem dX12_init_66 : decode cX12_init 66 = .ok (.newarray .int, 2) := by decide +kernel
theorem dX12_init_68 : decode cX12_init 68 = .ok (.putfield 33, 3) := by decide +kernel
theorem dX12_init_71 : decode cX12_init 71 = .ok (.aload_n 0, 1) := by decide +kernel
theorem dX12_init_72 : decode cX12_init 72 = .ok (.bipush 100, 2) := by decide +kernel
theorem dX12_init_74 : decode cX12_init 74 = .ok (.newarray .int, 2) := by decide +kernel
theorem dX12_init_76 : decode cX12_init 76 = .ok (.putfield 36, 3) := by decide +kernel
theorem dX12_init_79 : decode cX12_init 79 = .ok (.aload_n 0, 1) := by decide +kernel
theorem dX12_init_80 : decode cX12_init 80 = .ok (.bipush 120, 2) := by decide +kernel
theorem dX12_init_82 : decode cX12_init 82 = .ok (.newarray .int, 2) := by decide +kernel
theorem dX12_init_84 : decode cX12_init 84 = .ok (.putfield 39, 3) := by decide +kernel
theorem dX12_init_87 : decode cX12_init 87 = .ok (.aload_n 0, 1) := by decide +kernel
theorem dX12_init_88 : decode cX12_init 88 = .ok (.bipush 120, 2) := by decide +kernel
theorem dX12_init_90 : decode cX12_init 90 = .ok (.newarray .int, 2) := by decide +kernel
theorem dX12_init_92 : decode cX12_init 92 = .ok (.putfield 42, 3) := by decide +kernel
theorem dX12_init_95 : decode cX12_init 95 = .ok (.aload_n 0, 1) := by decide +kernel
theorem dX12_init_96 : decode cX12_init 96 = .ok (.bipush 120, 2) := by decide +kernel
theorem dX12_init_98 : decode cX12_init 98 = .ok (.newarray .boolean, 2) := by decide +kernel
theorem dX12_init_100 : decode cX12_init 100 = .ok (.putfield 45, 3) := by decide +kernel
theorem dX12_init_103 : decode cX12_init 103 = .ok (.aload_n 0, 1) := by decide +kernel
theorem dX12_init_104 : decode cX12_init 104 = .ok (.sipush 400, 3) := by decide +kernel
theorem dX12_init_107 : decode cX12_init 107 = .ok (.newarray .int, 2) := by decide +kernel
theorem dX12_init_109 : decode cX12_init 109 = .ok (.putfield 48, 3) := by decide +kernel
theorem dX12_init_112 : decode cX12_init 112 = .ok (.aload_n 0, 1) := by decide +kernel
theorem dX12_init_113 : decode cX12_init 113 = .ok (.bipush 120, 2) := by decide +kernel
theorem dX12_init_115 : decode cX12_init 115 = .ok (.newarray .int, 2) := by decide +kernel
theorem dX12_init_117 : decode cX12_init 117 = .ok (.putfield 51, 3) := by decide +kernel
theorem dX12_init_120 : decode cX12_init 120 = .ok (.aload_n 0, 1) := by decide +kernel
theorem dX12_init_121 : decode cX12_init 121 = .ok (.bipush 8, 2) := by decide +kernel
theorem dX12_init_123 : decode cX12_init 123 = .ok (.newarray .int, 2) := by decide +kernel
theorem dX12_init_125 : decode cX12_init 125 = .ok (.putfield 54, 3) := by decide +kernel
theorem dX12_init_128 : decode cX12_init 128 = .ok (.aload_n 0, 1) := by decide +kernel
theorem dX12_init_129 : decode cX12_init 129 = .ok (.bipush 8, 2) := by decide +kernel
theorem dX12_init_131 : decode cX12_init 131 = .ok (.newarray .int, 2) := by decide +kernel
theorem dX12_init_133 : decode cX12_init 133 = .ok (.putfield 57, 3) := by decide +kernel
theorem dX12_init_136 : decode cX12_init 136 = .ok (.aload_n 0, 1) := by decide +kernel
theorem dX12_init_137 : decode cX12_init 137 = .ok (.bipush 8, 2) := by decide +kernel
theorem dX12_init_139 : decode cX12_init 139 = .ok (.newarray .int, 2) := by decide +kernel
theorem dX12_init_141 : decode cX12_init 141 = .ok (.putfield 60, 3) := by decide +kernel
theorem dX12_init_144 : decode cX12_init 144 = .ok (.aload_n 0, 1) := by decide +kernel
theorem dX12_init_145 : decode cX12_init 145 = .ok (.bipush 8, 2) := by decide +kernel
theorem dX12_init_147 : decode cX12_init 147 = .ok (.newarray .int, 2) := by decide +kernel
theorem dX12_init_149 : decode cX12_init 149 = .ok (.putfield 63, 3) := by decide +kernel
theorem dX12_init_152 : decode cX12_init 152 = .ok (.aload_n 0, 1) := by decide +kernel
theorem dX12_init_153 : decode cX12_init 153 = .ok (.bipush 8, 2) := by decide +kernel
theorem dX12_init_155 : decode cX12_init 155 = .ok (.newarray .boolean, 2) := by decide +kernel
theorem dX12_init_157 : decode cX12_init 157 = .ok (.putfield 66, 3) := by decide +kernel
theorem dX12_init_160 : decode cX12_init 160 = .ok (.aload_n 0, 1) := by decide +kernel
theorem dX12_init_161 : decode cX12_init 161 = .ok (.bipush 8, 2) := by decide +kernel
theorem dX12_init_163 : decode cX12_init 163 = .ok (.newarray .int, 2) := by decide +kernel
theorem dX12_init_165 : decode cX12_init 165 = .ok (.putfield 69, 3) := by decide +kernel
theorem dX12_init_168 : decode cX12_init 168 = .ok (.aload_n 0, 1) := by decide +kernel
theorem dX12_init_169 : decode cX12_init 169 = .ok (.bipush 8, 2) := by decide +kernel
theorem dX12_init_171 : decode cX12_init 171 = .ok (.newarray .int, 2) := by decide +kernel
theorem dX12_init_173 : decode cX12_init 173 = .ok (.putfield 72, 3) := by decide +kernel
theorem dX12_init_176 : decode cX12_init 176 = .ok (.aload_n 0, 1) := by decide +kernel
theorem dX12_init_177 : decode cX12_init 177 = .ok (.bipush 8, 2) := by decide +kernel
theorem dX12_init_179 : decode cX12_init 179 = .ok (.newarray .int, 2) := by decide +kernel
theorem dX12_init_181 : decode cX12_init 181 = .ok (.putfield 75, 3) := by decide +kernel
theorem dX12_init_184 : decode cX12_init 184 = .ok (.aload_n 0, 1) := by decide +kernel
theorem dX12_init_185 : decode cX12_init 185 = .ok (.bipush 8, 2) := by decide +kernel
theorem dX12_init_187 : decode cX12_init 187 = .ok (.newarray .int, 2) := by decide +kernel
theorem dX12_init_189 : decode cX12_init 189 = .ok (.putfield 78, 3) := by decide +kernel
theorem dX12_init_192 : decode cX12_init 192 = .ok (.aload_n 0, 1) := by decide +kernel
theorem dX12_init_193 : decode cX12_init 193 = .ok (.bipush 8, 2) := by decide +kernel
theorem dX12_init_195 : decode cX12_init 195 = .ok (.newarray .int, 2) := by decide +kernel
theorem dX12_init_197 : decode cX12_init 197 = .ok (.putfield 81, 3) := by decide +kernel
theorem dX12_init_200 : decode cX12_init 200 = .ok (.aload_n 0, 1) := by decide +kernel
theorem dX12_init_201 : decode cX12_init 201 = .ok (.bipush 32, 2) := by decide +kernel
theorem dX12_init_203 : decode cX12_init 203 = .ok (.newarray .int, 2) := by decide +kernel
theorem dX12_init_205 : decode cX12_init 205 = .ok (.putfield 84, 3) := by decide +kernel
theorem dX12_init_208 : decode cX12_init 208 = .ok (.aload_n 0, 1) := by decide +kernel
theorem dX12_init_209 : decode cX12_init 209 = .ok (.sipush 2000, 3) := by decide +kernel
theorem dX12_init_212 : decode cX12_init 212 = .ok (.newarray .int, 2) := by decide +kernel
theorem dX12_init_214 : decode cX12_init 214 = .ok (.putfield 87, 3) := by decide +kernel
theorem dX12_init_217 : decode cX12_init 217 = .ok (.aload_n 0, 1) := by decide +kernel
theorem dX12_init_218 : decode cX12_init 218 = .ok (.sipush 2400, 3) := by decide +kernel
theorem dX12_init_221 : decode cX12_init 221 = .ok (.newarray .int, 2) := by decide +kernel
theorem dX12_init_223 : decode cX12_init 223 = .ok (.putfield 90, 3) := by decide +kernel
theorem dX12_init_226 : decode cX12_init 226 = .ok (.aload_n 0, 1) := by decide +kernel
theorem dX12_init_227 : decode cX12_init 227 = .ok (.bipush 24, 2) := by decide +kernel
theorem dX12_init_229 : decode cX12_init 229 = .ok (.newarray .int, 2) := by decide +kernel
theorem dX12_init_231 : decode cX12_init 231 = .ok (.putfield 93, 3) := by decide +kernel
theorem dX12_init_234 : decode cX12_init 234 = .ok (.return_, 1) := by decide +kernel
theorem dX12_in_0 : decode cX12_in 0 = .ok (.lload_n 0, 1) := by decide +kernel
theorem dX12_in_1 : decode cX12_in 1 = .ok (.lload_n 2, 1) := by decide +kernel
theorem dX12_in_2 : decode cX12_in 2 = .ok (.lcmp, 1) := by decide +kernel
theorem dX12_in_3 : decode cX12_in 3 = .ok (.ifCond .lt 14, 3) := by decide +kernel
theorem dX12_in_6 : decode cX12_in 6 = .ok (.lload_n 0, 1) := by decide +kernel
theorem dX12_in_7 : decode cX12_in 7 = .ok (.lload 4, 2) := by decide +kernel
theorem dX12_in_9 : decode cX12_in 9 = .ok (.lcmp, 1) := by decide +kernel
theorem dX12_in_10 : decode cX12_in 10 = .ok (.ifCond .gt 7, 3) := by decide +kernel
theorem dX12_in_13 : decode cX12_in 13 = .ok (.iconst 1, 1) := by decide +kernel
theorem dX12_in_14 : decode cX12_in 14 = .ok (.goto 4, 3) := by decide +kernel
theorem dX12_in_17 : decode cX12_in 17 = .ok (.iconst 0, 1) := by decide +kernel
theorem dX12_in_18 : decode cX12_in 18 = .ok (.ireturn, 1) := by decide +kernel
theorem dX12_add_0 : decode cX12_add 0 = .ok (.aload_n 0, 1) := by decide +kernel
theorem dX12_add_1 : decode cX12_add 1 = .ok (.iconst 0, 1) := by decide +kernel
theorem dX12_add_2 : decode cX12_add 2 = .ok (.putfield 96, 3) := by decide +kernel
theorem dX12_add_5 : decode cX12_add 5 = .ok (.iload_n 3, 1) := by decide +kernel
theorem dX12_add_6 : decode cX12_add 6 = .ok (.i2l, 1) := by decide +kernel
theorem dX12_add_7 : decode cX12_add 7 = .ok (.lconst 1, 1) := by decide +kernel
theorem dX12_add_8 : decode cX12_add 8 = .ok (.ldc2_w 100, 3) := by decide +kernel
theorem dX12_add_11 : decode cX12_add 11 = .ok (.invokestatic 102, 3) := by decide +kernel
theorem dX12_add_14 : decode cX12_add 14 = .ok (.ifCond .eq 15, 3) := by decide +kernel
theorem dX12_add_17 : decode cX12_add 17 = .ok (.aload_n 0, 1) := by decide +kernel
theorem dX12_add_18 : decode cX12_add 18 = .ok (.getfield 106, 3) := by decide +kernel
theorem dX12_add_21 : decode cX12_add 21 = .ok (.iload_n 3, 1) := by decide +kernel
theorem dX12_add_22 : decode cX12_add 22 = .ok (.iadd, 1) := by decide +kernel
theorem dX12_add_23 : decode cX12_add 23 = .ok (.sipush 1600, 3) := by decide +kernel
theorem dX12_add_26 : decode cX12_add 26 = .ok (.if_icmp .le 5, 3) := by decide +kernel
theorem dX12_add_29 : decode cX12_add 29 = .ok (.iconst (-1), 1) := by decide +kernel
theorem dX12_add_30 : decode cX12_add 30 = .ok (.ireturn, 1) := by decide +kernel
theorem dX12_add_31 : decode cX12_add 31 = .ok (.iconst 0, 1) := by decide +kernel
theorem dX12_add_32 : decode cX12_add 32 = .ok (.istore 4, 2) := by decide +kernel
theorem dX12_add_34 : decode cX12_add 34 = .ok (.iload 4, 2) := by decide +kernel
theorem dX12_add_36 : decode cX12_add 36 = .ok (.iload_n 3, 1) := by decide +kernel
theorem dX12_add_37 : decode cX12_add 37 = .ok (.if_icmp .ge 40, 3) := by decide +kernel
theorem dX12_add_40 : decode cX12_add 40 = .ok (.aload_n 0, 1) := by decide +kernel
theorem dX12_add_41 : decode cX12_add 41 = .ok (.getfield 7, 3) := by decide +kernel
theorem dX12_add_44 : decode cX12_add 44 = .ok (.aload_n 0, 1) := by decide +kernel
theorem dX12_add_45 : decode cX12_add 45 = .ok (.getfield 106, 3) := by decide +kernel
theorem dX12_add_48 : decode cX12_add 48 = .ok (.lload_n 1, 1) := by decide +kernel
theorem dX12_add_49 : decode cX12_add 49 = .ok (.bipush 8, 2) := by decide +kernel
theorem dX12_add_51 : decode cX12_add 51 = .ok (.iload 4, 2) := by decide +kernel
theorem dX12_add_53 : decode cX12_add 53 = .ok (.imul, 1) := by decide +kernel
theorem dX12_add_54 : decode cX12_add 54 = .ok (.lshr, 1) := by decide +kernel
theorem dX12_add_55 : decode cX12_add 55 = .ok (.ldc2_w 109, 3) := by decide +kernel
theorem dX12_add_58 : decode cX12_add 58 = .ok (.land, 1) := by decide +kernel
theorem dX12_add_59 : decode cX12_add 59 = .ok (.l2i, 1) := by decide +kernel
theorem dX12_add_60 : decode cX12_add 60 = .ok (.iastore, 1) := by decide +kernel
theorem dX12_add_61 : decode cX12_add 61 = .ok (.aload_n 0, 1) := by decide +kernel
theorem dX12_add_62 : decode cX12_add 62 = .ok (.dup, 1) := by decide +kernel
theorem dX12_add_63 : decode cX12_add 63 = .ok (.getfield 106, 3) := by decide +kernel
theorem dX12_add_66 : decode cX12_add 66 = .ok (.iconst 1, 1) := by decide +kernel
theorem dX12_add_67 : decode cX12_add 67 = .ok (.iadd, 1) := by decide +kernel
theorem dX12_add_68 : decode cX12_add 68 = .ok (.putfield 106, 3) := by decide +kernel
theorem dX12_add_71 : decode cX12_add 71 = .ok (.iinc 4 1, 3) := by decide +kernel
theorem dX12_add_74 : decode cX12_add 74 = .ok (.goto (-40), 3) := by decide +kernel
theorem dX12_add_77 : decode cX12_add 77 = .ok (.aload_n 0, 1) := by decide +kernel
theorem dX12_add_78 : decode cX12_add 78 = .ok (.getfield 106, 3) := by decide +kernel
theorem dX12_add_81 : decode cX12_add 81 = .ok (.ireturn, 1) := by decide +kernel
theorem dX12_fourAt_0 : decode cX12_fourAt 0 = .ok (.aload_n 0, 1) := by decide +kernel
theorem dX12_fourAt_1 : decode cX12_fourAt 1 = .ok (.getfield 7, 3) := by decide +kernel
theorem dX12_fourAt_4 : decode cX12_fourAt 4 = .ok (.iload_n 1, 1) := by decide +kernel
theorem dX12_fourAt_5 : decode cX12_fourAt 5 = .ok (.iaload, 1) := by decide +kernel
theorem dX12_fourAt_6 : decode cX12_fourAt 6 = .ok (.i2l, 1) := by decide +kernel
theorem dX12_fourAt_7 : decode cX12_fourAt 7 = .ok (.bipush 24, 2) := by decide +kernel
theorem dX12_fourAt_9 : decode cX12_fourAt 9 = .ok (.lshl, 1) := by decide +kernel
theorem dX12_fourAt_10 : decode cX12_fourAt 10 = .ok (.aload_n 0, 1) := by decide +kernel
theorem dX12_fourAt_11 : decode cX12_fourAt 11 = .ok (.getfield 7, 3) := by decide +kernel
theorem dX12_fourAt_14 : decode cX12_fourAt 14 = .ok (.iload_n 1, 1) := by decide +kernel
theorem dX12_fourAt_15 : decode cX12_fourAt 15 = .ok (.iconst 1, 1) := by decide +kernel
theorem dX12_fourAt_16 : decode cX12_fourAt 16 = .ok (.iadd, 1) := by decide +kernel
theorem dX12_fourAt_17 : decode cX12_fourAt 17 = .ok (.iaload, 1) := by decide +kernel
theorem dX12_fourAt_18 : decode cX12_fourAt 18 = .ok (.bipush 16, 2) := by decide +kernel
theorem dX12_fourAt_20 : decode cX12_fourAt 20 = .ok (.ishl, 1) := by decide +kernel
theorem dX12_fourAt_21 : decode cX12_fourAt 21 = .ok (.i2l, 1) := by decide +kernel
theorem dX12_fourAt_22 : decode cX12_fourAt 22 = .ok (.ladd, 1) := by decide +kernel
theorem dX12_fourAt_23 : decode cX12_fourAt 23 = .ok (.aload_n 0, 1) := by decide +kernel
theorem dX12_fourAt_24 : decode cX12_fourAt 24 = .ok (.getfield 7, 3) := by decide +kernel
theorem dX12_fourAt_27 : decode cX12_fourAt 27 = .ok (.iload_n 1, 1) := by decide +kernel
theorem dX12_fourAt_28 : decode cX12_fourAt 28 = .ok (.iconst 2, 1) := by decide +kernel
theorem dX12_fourAt_29 : decode cX12_fourAt 29 = .ok (.iadd, 1) := by decide +kernel
theorem dX12_fourAt_30 : decode cX12_fourAt 30 = .ok (.iaload, 1) := by decide +kernel
theorem dX12_fourAt_31 : decode cX12_fourAt 31 = .ok (.bipush 8, 2) := by decide +kernel
theorem dX12_fourAt_33 : decode cX12_fourAt 33 = .ok (.ishl, 1) := by decide +kernel
theorem dX12_fourAt_34 : decode cX12_fourAt 34 = .ok (.i2l, 1) := by decide +kernel
theorem dX12_fourAt_35 : decode cX12_fourAt 35 = .ok (.ladd, 1) := by decide +kernel
theorem dX12_fourAt_36 : decode cX12_fourAt 36 = .ok (.aload_n 0, 1) := by decide +kernel
theorem dX12_fourAt_37 : decode cX12_fourAt 37 = .ok (.getfield 7, 3) := by decide +kernel
theorem dX12_fourAt_40 : decode cX12_fourAt 40 = .ok (.iload_n 1, 1) := by decide +kernel
theorem dX12_fourAt_41 : decode cX12_fourAt 41 = .ok (.iconst 3, 1) := by decide +kernel
theorem dX12_fourAt_42 : decode cX12_fourAt 42 = .ok (.iadd, 1) := by decide +kernel
theorem dX12_fourAt_43 : decode cX12_fourAt 43 = .ok (.iaload, 1) := by decide +kernel
theorem dX12_fourAt_44 : decode cX12_fourAt 44 = .ok (.i2l, 1) := by decide +kernel
theorem dX12_fourAt_45 : decode cX12_fourAt 45 = .ok (.ladd, 1) := by decide +kernel
theorem dX12_fourAt_46 : decode cX12_fourAt 46 = .ok (.lreturn, 1) := by decide +kernel
theorem dX12_twoAt_0 : decode cX12_twoAt 0 = .ok (.sipush 256, 3) := by decide +kernel
theorem dX12_twoAt_3 : decode cX12_twoAt 3 = .ok (.aload_n 0, 1) := by decide +kernel
theorem dX12_twoAt_4 : decode cX12_twoAt 4 = .ok (.getfield 7, 3) := by decide +kernel
theorem dX12_twoAt_7 : decode cX12_twoAt 7 = .ok (.iload_n 1, 1) := by decide +kernel
theorem dX12_twoAt_8 : decode cX12_twoAt 8 = .ok (.iaload, 1) := by decide +kernel
theorem dX12_twoAt_9 : decode cX12_twoAt 9 = .ok (.imul, 1) := by decide +kernel
theorem dX12_twoAt_10 : decode cX12_twoAt 10 = .ok (.aload_n 0, 1) := by decide +kernel
theorem dX12_twoAt_11 : decode cX12_twoAt 11 = .ok (.getfield 7, 3) := by decide +kernel
theorem dX12_twoAt_14 : decode cX12_twoAt 14 = .ok (.iload_n 1, 1) := by decide +kernel
theorem dX12_twoAt_15 : decode cX12_twoAt 15 = .ok (.iconst 1, 1) := by decide +kernel
theorem dX12_twoAt_16 : decode cX12_twoAt 16 = .ok (.iadd, 1) := by decide +kernel
theorem dX12_twoAt_17 : decode cX12_twoAt 17 = .ok (.iaload, 1) := by decide +kernel
theorem dX12_twoAt_18 : decode cX12_twoAt 18 = .ok (.iadd, 1) := by decide +kernel
theorem dX12_twoAt_19 : decode cX12_twoAt 19 = .ok (.ireturn, 1) := by decide +kernel
theorem dX12_find_0 : decode cX12_find 0 = .ok (.iconst 0, 1) := by decide +kernel
theorem dX12_find_1 : decode cX12_find 1 = .ok (.istore_n 3, 1) := by decide +kernel
theorem dX12_find_2 : decode cX12_find 2 = .ok (.iload_n 3, 1) := by decide +kernel
theorem dX12_find_3 : decode cX12_find 3 = .ok (.aload_n 0, 1) := by decide +kernel
theorem dX12_find_4 : decode cX12_find 4 = .ok (.getfield 111, 3) := by decide +kernel
theorem dX12_find_7 : decode cX12_find 7 = .ok (.if_icmp .ge 20, 3) := by decide +kernel
theorem dX12_find_10 : decode cX12_find 10 = .ok (.aload_n 0, 1) := by decide +kernel
theorem dX12_find_11 : decode cX12_find 11 = .ok (.getfield 13, 3) := by decide +kernel
theorem dX12_find_14 : decode cX12_find 14 = .ok (.iload_n 3, 1) := by decide +kernel
theorem dX12_find_15 : decode cX12_find 15 = .ok (.laload, 1) := by decide +kernel
theorem dX12_find_16 : decode cX12_find 16 = .ok (.lload_n 1, 1) := by decide +kernel
theorem dX12_find_17 : decode cX12_find 17 = .ok (.lcmp, 1) := by decide +kernel
theorem dX12_find_18 : decode cX12_find 18 = .ok (.ifCond .eq 9, 3) := by decide +kernel
theorem dX12_find_21 : decode cX12_find 21 = .ok (.iinc 3 1, 3) := by decide +kernel
theorem dX12_find_24 : decode cX12_find 24 = .ok (.goto (-22), 3) := by decide +kernel
theorem dX12_find_27 : decode cX12_find 27 = .ok (.iload_n 3, 1) := by decide +kernel
theorem dX12_find_28 : decode cX12_find 28 = .ok (.aload_n 0, 1) := by decide +kernel
theorem dX12_find_29 : decode cX12_find 29 = .ok (.getfield 111, 3) := by decide +kernel
theorem dX12_find_32 : decode cX12_find 32 = .ok (.if_icmp .ge 7, 3) := by decide +kernel
theorem dX12_find_35 : decode cX12_find 35 = .ok (.iload_n 3, 1) := by decide +kernel
theorem dX12_find_36 : decode cX12_find 36 = .ok (.goto 4, 3) := by decide +kernel
theorem dX12_find_39 : decode cX12_find 39 = .ok (.iconst (-1), 1) := by decide +kernel
theorem dX12_find_40 : decode cX12_find 40 = .ok (.ireturn, 1) := by decide +kernel
theorem dX12_number_0 : decode cX12_number 0 = .ok (.iload_n 1, 1) := by decide +kernel
theorem dX12_number_1 : decode cX12_number 1 = .ok (.iconst (-1), 1) := by decide +kernel
theorem dX12_number_2 : decode cX12_number 2 = .ok (.if_icmp .eq 25, 3) := by decide +kernel
theorem dX12_number_5 : decode cX12_number 5 = .ok (.lload_n 2, 1) := by decide +kernel
theorem dX12_number_6 : decode cX12_number 6 = .ok (.lconst 0, 1) := by decide +kernel
theorem dX12_number_7 : decode cX12_number 7 = .ok (.lcmp, 1) := by decide +kernel
theorem dX12_number_8 : decode cX12_number 8 = .ok (.ifCond .lt 19, 3) := by decide +kernel
theorem dX12_number_11 : decode cX12_number 11 = .ok (.lload_n 2, 1) := by decide +kernel
theorem dX12_number_12 : decode cX12_number 12 = .ok (.iload 4, 2) := by decide +kernel
theorem dX12_number_14 : decode cX12_number 14 = .ok (.i2l, 1) := by decide +kernel
theorem dX12_number_15 : decode cX12_number 15 = .ok (.ladd, 1) := by decide +kernel
theorem dX12_number_16 : decode cX12_number 16 = .ok (.aload_n 0, 1) := by decide +kernel
theorem dX12_number_17 : decode cX12_number 17 = .ok (.getfield 23, 3) := by decide +kernel
theorem dX12_number_20 : decode cX12_number 20 = .ok (.iload_n 1, 1) := by decide +kernel
theorem dX12_number_21 : decode cX12_number 21 = .ok (.iaload, 1) := by decide +kernel
theorem dX12_number_22 : decode cX12_number 22 = .ok (.i2l, 1) := by decide +kernel
theorem dX12_number_23 : decode cX12_number 23 = .ok (.lcmp, 1) := by decide +kernel
theorem dX12_number_24 : decode cX12_number 24 = .ok (.ifCond .le 10, 3) := by decide +kernel
theorem dX12_number_27 : decode cX12_number 27 = .ok (.aload_n 0, 1) := by decide +kernel
theorem dX12_number_28 : decode cX12_number 28 = .ok (.iconst 1, 1) := by decide +kernel
theorem dX12_number_29 : decode cX12_number 29 = .ok (.putfield 114, 3) := by decide +kernel
theorem dX12_number_32 : decode cX12_number 32 = .ok (.lconst 0, 1) := by decide +kernel
theorem dX12_number_33 : decode cX12_number 33 = .ok (.lreturn, 1) := by decide +kernel
theorem dX12_number_34 : decode cX12_number 34 = .ok (.lconst 0, 1) := by decide +kernel
theorem dX12_number_35 : decode cX12_number 35 = .ok (.lstore 5, 2) := by decide +kernel
theorem dX12_number_37 : decode cX12_number 37 = .ok (.iconst 0, 1) := by decide +kernel
theorem dX12_number_38 : decode cX12_number 38 = .ok (.istore 7, 2) := by decide +kernel
theorem dX12_number_40 : decode cX12_number 40 = .ok (.iload 7, 2) := by decide +kernel
theorem dX12_number_42 : decode cX12_number 42 = .ok (.iload 4, 2) := by decide +kernel
theorem dX12_number_44 : decode cX12_number 44 = .ok (.if_icmp .ge 36, 3) := by decide +kernel
theorem dX12_number_47 : decode cX12_number 47 = .ok (.ldc2_w 118, 3) := by decide +kernel
theorem dX12_number_50 : decode cX12_number 50 = .ok (.lload 5, 2) := by decide +kernel
theorem dX12_number_52 : decode cX12_number 52 = .ok (.lmul, 1) := by decide +kernel
theorem dX12_number_53 : decode cX12_number 53 = .ok (.aload_n 0, 1) := by decide +kernel
theorem dX12_number_54 : decode cX12_number 54 = .ok (.getfield 7, 3) := by decide +kernel
theorem dX12_number_57 : decode cX12_number 57 = .ok (.aload_n 0, 1) := by decide +kernel
theorem dX12_number_58 : decode cX12_number 58 = .ok (.getfield 20, 3) := by decide +kernel
theorem dX12_number_61 : decode cX12_number 61 = .ok (.iload_n 1, 1) := by decide +kernel
theorem dX12_number_62 : decode cX12_number 62 = .ok (.iaload, 1) := by decide +kernel
theorem dX12_number_63 : decode cX12_number 63 = .ok (.lload_n 2, 1) := by decide +kernel
theorem dX12_number_64 : decode cX12_number 64 = .ok (.l2i, 1) := by decide +kernel
theorem dX12_number_65 : decode cX12_number 65 = .ok (.iadd, 1) := by decide +kernel
theorem dX12_number_66 : decode cX12_number 66 = .ok (.iload 7, 2) := by decide +kernel
theorem dX12_number_68 : decode cX12_number 68 = .ok (.iadd, 1) := by decide +kernel
theorem dX12_number_69 : decode cX12_number 69 = .ok (.iaload, 1) := by decide +kernel
theorem dX12_number_70 : decode cX12_number 70 = .ok (.i2l, 1) := by decide +kernel
theorem dX12_number_71 : decode cX12_number 71 = .ok (.ladd, 1) := by decide +kernel
theorem dX12_number_72 : decode cX12_number 72 = .ok (.lstore 5, 2) := by decide +kernel
theorem dX12_number_74 : decode cX12_number 74 = .ok (.iinc 7 1, 3) := by decide +kernel
theorem dX12_number_77 : decode cX12_number 77 = .ok (.goto (-37), 3) := by decide +kernel
theorem dX12_number_80 : decode cX12_number 80 = .ok (.lload 5, 2) := by decide +kernel
theorem dX12_number_82 : decode cX12_number 82 = .ok (.lreturn, 1) := by decide +kernel
theorem dX12_two_0 : decode cX12_two 0 = .ok (.aload_n 0, 1) := by decide +kernel
theorem dX12_two_1 : decode cX12_two 1 = .ok (.iload_n 1, 1) := by decide +kernel
theorem dX12_two_2 : decode cX12_two 2 = .ok (.lload_n 2, 1) := by decide +kernel
theorem dX12_two_3 : decode cX12_two 3 = .ok (.iconst 2, 1) := by decide +kernel
theorem dX12_two_4 : decode cX12_two 4 = .ok (.invokevirtual 120, 3) := by decide +kernel
theorem dX12_two_7 : decode cX12_two 7 = .ok (.l2i, 1) := by decide +kernel
theorem dX12_two_8 : decode cX12_two 8 = .ok (.ireturn, 1) := by decide +kernel
theorem dX12_signed_0 : decode cX12_signed 0 = .ok (.iload_n 0, 1) := by decide +kernel
theorem dX12_signed_1 : decode cX12_signed 1 = .ok (.sipush 32767, 3) := by decide +kernel
theorem dX12_signed_4 : decode cX12_signed 4 = .ok (.if_icmp .le 10, 3) := by decide +kernel
theorem dX12_signed_7 : decode cX12_signed 7 = .ok (.iload_n 0, 1) := by decide +kernel
theorem dX12_signed_8 : decode cX12_signed 8 = .ok (.ldc 124, 2) := by decide +kernel
theorem dX12_signed_10 : decode cX12_signed 10 = .ok (.isub, 1) := by decide +kernel
theorem dX12_signed_11 : decode cX12_signed 11 = .ok (.goto 4, 3) := by decide +kernel
theorem dX12_signed_14 : decode cX12_signed 14 = .ok (.iload_n 0, 1) := by decide +kernel
theorem dX12_signed_15 : decode cX12_signed 15 = .ok (.ireturn, 1) := by decide +kernel
theorem dX12_sumOf_0 : decode cX12_sumOf 0 = .ok (.lconst 0, 1) := by decide +kernel
theorem dX12_sumOf_1 : decode cX12_sumOf 1 = .ok (.lstore_n 2, 1) := by decide +kernel
theorem dX12_sumOf_2 : decode cX12_sumOf 2 = .ok (.aload_n 0, 1) := by decide +kernel
theorem dX12_sumOf_3 : decode cX12_sumOf 3 = .ok (.ldc2_w 125, 3) := by decide +kernel
theorem dX12_sumOf_6 : decode cX12_sumOf 6 = .ok (.invokevirtual 127, 3) := by decide +kernel
theorem dX12_sumOf_9 : decode cX12_sumOf 9 = .ok (.istore 4, 2) := by decide +kernel
theorem dX12_sumOf_11 : decode cX12_sumOf 11 = .ok (.iconst 0, 1) := by decide +kernel
theorem dX12_sumOf_12 : decode cX12_sumOf 12 = .ok (.istore 5, 2) := by decide +kernel
theorem dX12_sumOf_14 : decode cX12_sumOf 14 = .ok (.iload 5, 2) := by decide +kernel
theorem dX12_sumOf_16 : decode cX12_sumOf 16 = .ok (.aload_n 0, 1) := by decide +kernel
theorem dX12_sumOf_17 : decode cX12_sumOf 17 = .ok (.getfield 23, 3) := by decide +kernel
theorem dX12_sumOf_20 : decode cX12_sumOf 20 = .ok (.iload_n 1, 1) := by decide +kernel
theorem dX12_sumOf_21 : decode cX12_sumOf 21 = .ok (.iaload, 1) := by decide +kernel
theorem dX12_sumOf_22 : decode cX12_sumOf 22 = .ok (.if_icmp .ge 66, 3) := by decide +kernel
theorem dX12_sumOf_25 : decode cX12_sumOf 25 = .ok (.iload_n 1, 1) := by decide +kernel
theorem dX12_sumOf_26 : decode cX12_sumOf 26 = .ok (.iload 4, 2) := by decide +kernel
theorem dX12_sumOf_28 : decode cX12_sumOf 28 = .ok (.if_icmp .ne 21, 3) := by decide +kernel
theorem dX12_sumOf_31 : decode cX12_sumOf 31 = .ok (.iload 5, 2) := by decide +kernel
theorem dX12_sumOf_33 : decode cX12_sumOf 33 = .ok (.bipush 8, 2) := by decide +kernel
theorem dX12_sumOf_35 : decode cX12_sumOf 35 = .ok (.if_icmp .lt 14, 3) := by decide +kernel
theorem dX12_sumOf_38 : decode cX12_sumOf 38 = .ok (.iload 5, 2) := by decide +kernel
theorem dX12_sumOf_40 : decode cX12_sumOf 40 = .ok (.bipush 12, 2) := by decide +kernel
theorem dX12_sumOf_42 : decode cX12_sumOf 42 = .ok (.if_icmp .ge 7, 3) := by decide +kernel
theorem dX12_sumOf_45 : decode cX12_sumOf 45 = .ok (.iconst 0, 1) := by decide +kernel
theorem dX12_sumOf_46 : decode cX12_sumOf 46 = .ok (.goto 17, 3) := by decide +kernel
theorem dX12_sumOf_49 : decode cX12_sumOf 49 = .ok (.aload_n 0, 1) := by decide +kernel
theorem dX12_sumOf_50 : decode cX12_sumOf 50 = .ok (.getfield 7, 3) := by decide +kernel
theorem dX12_sumOf_53 : decode cX12_sumOf 53 = .ok (.aload_n 0, 1) := by decide +kernel
theorem dX12_sumOf_54 : decode cX12_sumOf 54 = .ok (.getfield 20, 3) := by decide +kernel
theorem dX12_sumOf_57 : decode cX12_sumOf 57 = .ok (.iload_n 1, 1) := by decide +kernel
theorem dX12_sumOf_58 : decode cX12_sumOf 58 = .ok (.iaload, 1) := by decide +kernel
theorem dX12_sumOf_59 : decode cX12_sumOf 59 = .ok (.iload 5, 2) := by decide +kernel
theorem dX12_sumOf_61 : decode cX12_sumOf 61 = .ok (.iadd, 1) := by decide +kernel
theorem dX12_sumOf_62 : decode cX12_sumOf 62 = .ok (.iaload, 1) := by decide +kernel
theorem dX12_sumOf_63 : decode cX12_sumOf 63 = .ok (.istore 6, 2) := by decide +kernel
theorem dX12_sumOf_65 : decode cX12_sumOf 65 = .ok (.lload_n 2, 1) := by decide +kernel
theorem dX12_sumOf_66 : decode cX12_sumOf 66 = .ok (.iload 6, 2) := by decide +kernel
theorem dX12_sumOf_68 : decode cX12_sumOf 68 = .ok (.i2l, 1) := by decide +kernel
theorem dX12_sumOf_69 : decode cX12_sumOf 69 = .ok (.bipush 24, 2) := by decide +kernel
theorem dX12_sumOf_71 : decode cX12_sumOf 71 = .ok (.bipush 8, 2) := by decide +kernel
theorem dX12_sumOf_73 : decode cX12_sumOf 73 = .ok (.iload 5, 2) := by decide +kernel
theorem dX12_sumOf_75 : decode cX12_sumOf 75 = .ok (.iconst 4, 1) := by decide +kernel
theorem dX12_sumOf_76 : decode cX12_sumOf 76 = .ok (.irem, 1) := by decide +kernel
theorem dX12_sumOf_77 : decode cX12_sumOf 77 = .ok (.imul, 1) := by decide +kernel
theorem dX12_sumOf_78 : decode cX12_sumOf 78 = .ok (.isub, 1) := by decide +kernel
theorem dX12_sumOf_79 : decode cX12_sumOf 79 = .ok (.lshl, 1) := by decide +kernel
theorem dX12_sumOf_80 : decode cX12_sumOf 80 = .ok (.ladd, 1) := by decide +kernel
theorem dX12_sumOf_81 : decode cX12_sumOf 81 = .ok (.lstore_n 2, 1) := by decide +kernel
theorem dX12_sumOf_82 : decode cX12_sumOf 82 = .ok (.iinc 5 1, 3) := by decide +kernel
theorem dX12_sumOf_85 : decode cX12_sumOf 85 = .ok (.goto (-71), 3) := by decide +kernel
theorem dX12_sumOf_88 : decode cX12_sumOf 88 = .ok (.lload_n 2, 1) := by decide +kernel
theorem dX12_sumOf_89 : decode cX12_sumOf 89 = .ok (.ldc2_w 131, 3) := by decide +kernel
theorem dX12_sumOf_92 : decode cX12_sumOf 92 = .ok (.land, 1) := by decide +kernel
theorem dX12_sumOf_93 : decode cX12_sumOf 93 = .ok (.lreturn, 1) := by decide +kernel
theorem dX12_tell_0 : decode cX12_tell 0 = .ok (.aload_n 0, 1) := by decide +kernel
theorem dX12_tell_1 : decode cX12_tell 1 = .ok (.getfield 133, 3) := by decide +kernel
theorem dX12_tell_4 : decode cX12_tell 4 = .ok (.bipush 100, 2) := by decide +kernel
theorem dX12_tell_6 : decode cX12_tell 6 = .ok (.if_icmp .ge 33, 3) := by decide +kernel
theorem dX12_tell_9 : decode cX12_tell 9 = .ok (.aload_n 0, 1) := by decide +kernel
theorem dX12_tell_10 : decode cX12_tell 10 = .ok (.getfield 33, 3) := by decide +kernel
theorem dX12_tell_13 : decode cX12_tell 13 = .ok (.aload_n 0, 1) := by decide +kernel
theorem dX12_tell_14 : decode cX12_tell 14 = .ok (.getfield 133, 3) := by decide +kernel
theorem dX12_tell_17 : decode cX12_tell 17 = .ok (.iload_n 1, 1) := by decide +kernel
theorem dX12_tell_18 : decode cX12_tell 18 = .ok (.iastore, 1) := by decide +kernel
theorem dX12_tell_19 : decode cX12_tell 19 = .ok (.aload_n 0, 1) := by decide +kernel
theorem dX12_tell_20 : decode cX12_tell 20 = .ok (.getfield 36, 3) := by decide +kernel
theorem dX12_tell_23 : decode cX12_tell 23 = .ok (.aload_n 0, 1) := by decide +kernel
theorem dX12_tell_24 : decode cX12_tell 24 = .ok (.getfield 133, 3) := by decide +kernel
theorem dX12_tell_27 : decode cX12_tell 27 = .ok (.iload_n 2, 1) := by decide +kernel
theorem dX12_tell_28 : decode cX12_tell 28 = .ok (.iastore, 1) := by decide +kernel
theorem dX12_tell_29 : decode cX12_tell 29 = .ok (.aload_n 0, 1) := by decide +kernel
theorem dX12_tell_30 : decode cX12_tell 30 = .ok (.dup, 1) := by decide +kernel
theorem dX12_tell_31 : decode cX12_tell 31 = .ok (.getfield 133, 3) := by decide +kernel
theorem dX12_tell_34 : decode cX12_tell 34 = .ok (.iconst 1, 1) := by decide +kernel
theorem dX12_tell_35 : decode cX12_tell 35 = .ok (.iadd, 1) := by decide +kernel
theorem dX12_tell_36 : decode cX12_tell 36 = .ok (.putfield 133, 3) := by decide +kernel
theorem dX12_tell_39 : decode cX12_tell 39 = .ok (.return_, 1) := by decide +kernel
theorem dX12_forgetRun_0 : decode cX12_forgetRun 0 = .ok (.aload_n 0, 1) := by decide +kernel
theorem dX12_forgetRun_1 : decode cX12_forgetRun 1 = .ok (.iconst 0, 1) := by decide +kernel
theorem dX12_forgetRun_2 : decode cX12_forgetRun 2 = .ok (.putfield 136, 3) := by decide +kernel
theorem dX12_forgetRun_5 : decode cX12_forgetRun 5 = .ok (.aload_n 0, 1) := by decide +kernel
theorem dX12_forgetRun_6 : decode cX12_forgetRun 6 = .ok (.iconst 0, 1) := by decide +kernel
theorem dX12_forgetRun_7 : decode cX12_forgetRun 7 = .ok (.putfield 139, 3) := by decide +kernel
theorem dX12_forgetRun_10 : decode cX12_forgetRun 10 = .ok (.aload_n 0, 1) := by decide +kernel
theorem dX12_forgetRun_11 : decode cX12_forgetRun 11 = .ok (.iconst 0, 1) := by decide +kernel
theorem dX12_forgetRun_12 : decode cX12_forgetRun 12 = .ok (.putfield 142, 3) := by decide +kernel
theorem dX12_forgetRun_15 : decode cX12_forgetRun 15 = .ok (.aload_n 0, 1) := by decide +kernel
theorem dX12_forgetRun_16 : decode cX12_forgetRun 16 = .ok (.iconst 0, 1) := by decide +kernel
theorem dX12_forgetRun_17 : decode cX12_forgetRun 17 = .ok (.putfield 133, 3) := by decide +kernel
theorem dX12_forgetRun_20 : decode cX12_forgetRun 20 = .ok (.return_, 1) := by decide +kernel
theorem dX12_read_0 : decode cX12_read 0 = .ok (.aload_n 0, 1) := by decide +kernel
theorem dX12_read_1 : decode cX12_read 1 = .ok (.iconst 0, 1) := by decide +kernel
theorem dX12_read_2 : decode cX12_read 2 = .ok (.putfield 96, 3) := by decide +kernel
theorem dX12_read_5 : decode cX12_read 5 = .ok (.aload_n 0, 1) := by decide +kernel
theorem dX12_read_6 : decode cX12_read 6 = .ok (.invokevirtual 145, 3) := by decide +kernel
theorem dX12_read_9 : decode cX12_read 9 = .ok (.aload_n 0, 1) := by decide +kernel
theorem dX12_read_10 : decode cX12_read 10 = .ok (.iconst 0, 1) := by decide +kernel
theorem dX12_read_11 : decode cX12_read 11 = .ok (.putfield 111, 3) := by decide +kernel
theorem dX12_read_14 : decode cX12_read 14 = .ok (.iconst 0, 1) := by decide +kernel
theorem dX12_read_15 : decode cX12_read 15 = .ok (.istore_n 1, 1) := by decide +kernel
theorem dX12_read_16 : decode cX12_read 16 = .ok (.iload_n 1, 1) := by decide +kernel
theorem dX12_read_17 : decode cX12_read 17 = .ok (.sipush 200, 3) := by decide +kernel
theorem dX12_read_20 : decode cX12_read 20 = .ok (.if_icmp .ge 16, 3) := by decide +kernel
theorem dX12_read_23 : decode cX12_read 23 = .ok (.aload_n 0, 1) := by decide +kernel
theorem dX12_read_24 : decode cX12_read 24 = .ok (.getfield 26, 3) := by decide +kernel
theorem dX12_read_27 : decode cX12_read 27 = .ok (.iload_n 1, 1) := by decide +kernel
theorem dX12_read_28 : decode cX12_read 28 = .ok (.iconst 0, 1) := by decide +kernel
theorem dX12_read_29 : decode cX12_read 29 = .ok (.bastore, 1) := by decide +kernel
theorem dX12_read_30 : decode cX12_read 30 = .ok (.iinc 1 1, 3) := by decide +kernel
theorem dX12_read_33 : decode cX12_read 33 = .ok (.goto (-17), 3) := by decide +kernel
theorem dX12_read_36 : decode cX12_read 36 = .ok (.aload_n 0, 1) := by decide +kernel
theorem dX12_read_37 : decode cX12_read 37 = .ok (.getfield 106, 3) := by decide +kernel
theorem dX12_read_40 : decode cX12_read 40 = .ok (.bipush 12, 2) := by decide +kernel
theorem dX12_read_42 : decode cX12_read 42 = .ok (.if_icmp .ge 5, 3) := by decide +kernel
theorem dX12_read_45 : decode cX12_read 45 = .ok (.iconst (-1), 1) := by decide +kernel
theorem dX12_read_46 : decode cX12_read 46 = .ok (.ireturn, 1) := by decide +kernel
theorem dX12_read_47 : decode cX12_read 47 = .ok (.aload_n 0, 1) := by decide +kernel
theorem dX12_read_48 : decode cX12_read 48 = .ok (.iconst 4, 1) := by decide +kernel
theorem dX12_read_49 : decode cX12_read 49 = .ok (.invokevirtual 148, 3) := by decide +kernel
theorem dX12_read_52 : decode cX12_read 52 = .ok (.bipush 24, 2) := by decide +kernel
theorem dX12_read_54 : decode cX12_read 54 = .ok (.if_icmp .le 8, 3) := by decide +kernel
theorem dX12_read_57 : decode cX12_read 57 = .ok (.bipush 24, 2) := by decide +kernel
theorem dX12_read_59 : decode cX12_read 59 = .ok (.goto 8, 3) := by decide +kernel
theorem dX12_read_62 : decode cX12_read 62 = .ok (.aload_n 0, 1) := by decide +kernel
theorem dX12_read_63 : decode cX12_read 63 = .ok (.iconst 4, 1) := by decide +kernel
theorem dX12_read_64 : decode cX12_read 64 = .ok (.invokevirtual 148, 3) := by decide +kernel
theorem dX12_read_67 : decode cX12_read 67 = .ok (.istore_n 1, 1) := by decide +kernel
theorem dX12_read_68 : decode cX12_read 68 = .ok (.iconst 0, 1) := by decide +kernel
theorem dX12_read_69 : decode cX12_read 69 = .ok (.istore_n 2, 1) := by decide +kernel
theorem dX12_read_70 : decode cX12_read 70 = .ok (.iload_n 2, 1) := by decide +kernel
theorem dX12_read_71 : decode cX12_read 71 = .ok (.iload_n 1, 1) := by decide +kernel
theorem dX12_read_72 : decode cX12_read 72 = .ok (.if_icmp .ge 112, 3) := by decide +kernel
theorem dX12_read_75 : decode cX12_read 75 = .ok (.bipush 12, 2) := by decide +kernel
theorem dX12_read_77 : decode cX12_read 77 = .ok (.bipush 16, 2) := by decide +kernel
theorem dX12_read_79 : decode cX12_read 79 = .ok (.iload_n 2, 1) := by decide +kernel
theorem dX12_read_80 : decode cX12_read 80 = .ok (.imul, 1) := by decide +kernel
theorem dX12_read_81 : decode cX12_read 81 = .ok (.iadd, 1) := by decide +kernel
theorem dX12_read_82 : decode cX12_read 82 = .ok (.istore_n 3, 1) := by decide +kernel
theorem dX12_read_83 : decode cX12_read 83 = .ok (.iload_n 3, 1) := by decide +kernel
theorem dX12_read_84 : decode cX12_read 84 = .ok (.bipush 16, 2) := by decide +kernel
theorem dX12_read_86 : decode cX12_read 86 = .ok (.iadd, 1) := by decide +kernel
theorem dX12_read_87 : decode cX12_read 87 = .ok (.aload_n 0, 1) := by decide +kernel
theorem dX12_read_88 : decode cX12_read 88 = .ok (.getfield 106, 3) := by decide +kernel
theorem dX12_read_91 : decode cX12_read 91 = .ok (.if_icmp .gt 29, 3) := by decide +kernel
theorem dX12_read_94 : decode cX12_read 94 = .ok (.aload_n 0, 1) := by decide +kernel
theorem dX12_read_95 : decode cX12_read 95 = .ok (.iload_n 3, 1) := by decide +kernel
theorem dX12_read_96 : decode cX12_read 96 = .ok (.bipush 8, 2) := by decide +kernel
theorem dX12_read_98 : decode cX12_read 98 = .ok (.iadd, 1) := by decide +kernel
theorem dX12_read_99 : decode cX12_read 99 = .ok (.invokevirtual 152, 3) := by decide +kernel
theorem dX12_read_102 : decode cX12_read 102 = .ok (.aload_n 0, 1) := by decide +kernel
theorem dX12_read_103 : decode cX12_read 103 = .ok (.iload_n 3, 1) := by decide +kernel
theorem dX12_read_104 : decode cX12_read 104 = .ok (.bipush 12, 2) := by decide +kernel
theorem dX12_read_106 : decode cX12_read 106 = .ok (.iadd, 1) := by decide +kernel
theorem dX12_read_107 : decode cX12_read 107 = .ok (.invokevirtual 152, 3) := by decide +kernel
theorem dX12_read_110 : decode cX12_read 110 = .ok (.ladd, 1) := by decide +kernel
theorem dX12_read_111 : decode cX12_read 111 = .ok (.aload_n 0, 1) := by decide +kernel
theorem dX12_read_112 : decode cX12_read 112 = .ok (.getfield 106, 3) := by decide +kernel
theorem dX12_read_115 : decode cX12_read 115 = .ok (.i2l, 1) := by decide +kernel
theorem dX12_read_116 : decode cX12_read 116 = .ok (.lcmp, 1) := by decide +kernel
theorem dX12_read_117 : decode cX12_read 117 = .ok (.ifCond .le 7, 3) := by decide +kernel
theorem dX12_read_120 : decode cX12_read 120 = .ok (.iconst (-1), 1) := by decide +kernel
theorem dX12_read_121 : decode cX12_read 121 = .ok (.iload_n 2, 1) := by decide +kernel
theorem dX12_read_122 : decode cX12_read 122 = .ok (.isub, 1) := by decide +kernel
theorem dX12_read_123 : decode cX12_read 123 = .ok (.ireturn, 1) := by decide +kernel
theorem dX12_read_124 : decode cX12_read 124 = .ok (.aload_n 0, 1) := by decide +kernel
theorem dX12_read_125 : decode cX12_read 125 = .ok (.getfield 13, 3) := by decide +kernel
theorem dX12_read_128 : decode cX12_read 128 = .ok (.iload_n 2, 1) := by decide +kernel
theorem dX12_read_129 : decode cX12_read 129 = .ok (.aload_n 0, 1) := by decide +kernel
theorem dX12_read_130 : decode cX12_read 130 = .ok (.iload_n 3, 1) := by decide +kernel
theorem dX12_read_131 : decode cX12_read 131 = .ok (.invokevirtual 152, 3) := by decide +kernel
theorem dX12_read_134 : decode cX12_read 134 = .ok (.lastore, 1) := by decide +kernel
theorem dX12_read_135 : decode cX12_read 135 = .ok (.aload_n 0, 1) := by decide +kernel
theorem dX12_read_136 : decode cX12_read 136 = .ok (.getfield 17, 3) := by decide +kernel
theorem dX12_read_139 : decode cX12_read 139 = .ok (.iload_n 2, 1) := by decide +kernel
theorem dX12_read_140 : decode cX12_read 140 = .ok (.aload_n 0, 1) := by decide +kernel
theorem dX12_read_141 : decode cX12_read 141 = .ok (.iload_n 3, 1) := by decide +kernel
theorem dX12_read_142 : decode cX12_read 142 = .ok (.iconst 4, 1) := by decide +kernel
theorem dX12_read_143 : decode cX12_read 143 = .ok (.iadd, 1) := by decide +kernel
theorem dX12_read_144 : decode cX12_read 144 = .ok (.invokevirtual 152, 3) := by decide +kernel
theorem dX12_read_147 : decode cX12_read 147 = .ok (.lastore, 1) := by decide +kernel
theorem dX12_read_148 : decode cX12_read 148 = .ok (.aload_n 0, 1) := by decide +kernel
theorem dX12_read_149 : decode cX12_read 149 = .ok (.getfield 20, 3) := by decide +kernel
theorem dX12_read_152 : decode cX12_read 152 = .ok (.iload_n 2, 1) := by decide +kernel
theorem dX12_read_153 : decode cX12_read 153 = .ok (.aload_n 0, 1) := by decide +kernel
theorem dX12_read_154 : decode cX12_read 154 = .ok (.iload_n 3, 1) := by decide +kernel
theorem dX12_read_155 : decode cX12_read 155 = .ok (.bipush 8, 2) := by decide +kernel
theorem dX12_read_157 : decode cX12_read 157 = .ok (.iadd, 1) := by decide +kernel
theorem dX12_read_158 : decode cX12_read 158 = .ok (.invokevirtual 152, 3) := by decide +kernel
theorem dX12_read_161 : decode cX12_read 161 = .ok (.l2i, 1) := by decide +kernel
theorem dX12_read_162 : decode cX12_read 162 = .ok (.iastore, 1) := by decide +kernel
theorem dX12_read_163 : decode cX12_read 163 = .ok (.aload_n 0, 1) := by decide +kernel
theorem dX12_read_164 : decode cX12_read 164 = .ok (.getfield 23, 3) := by decide +kernel
theorem dX12_read_167 : decode cX12_read 167 = .ok (.iload_n 2, 1) := by decide +kernel
theorem dX12_read_168 : decode cX12_read 168 = .ok (.aload_n 0, 1) := by decide +kernel
theorem dX12_read_169 : decode cX12_read 169 = .ok (.iload_n 3, 1) := by decide +kernel
theorem dX12_read_170 : decode cX12_read 170 = .ok (.bipush 12, 2) := by decide +kernel
theorem dX12_read_172 : decode cX12_read 172 = .ok (.iadd, 1) := by decide +kernel
theorem dX12_read_173 : decode cX12_read 173 = .ok (.invokevirtual 152, 3) := by decide +kernel
theorem dX12_read_176 : decode cX12_read 176 = .ok (.l2i, 1) := by decide +kernel
theorem dX12_read_177 : decode cX12_read 177 = .ok (.iastore, 1) := by decide +kernel
theorem dX12_read_178 : decode cX12_read 178 = .ok (.iinc 2 1, 3) := by decide +kernel
theorem dX12_read_181 : decode cX12_read 181 = .ok (.goto (-111), 3) := by decide +kernel
theorem dX12_read_184 : decode cX12_read 184 = .ok (.aload_n 0, 1) := by decide +kernel
theorem dX12_read_185 : decode cX12_read 185 = .ok (.iload_n 1, 1) := by decide +kernel
theorem dX12_read_186 : decode cX12_read 186 = .ok (.putfield 111, 3) := by decide +kernel
theorem dX12_read_189 : decode cX12_read 189 = .ok (.iconst 0, 1) := by decide +kernel
theorem dX12_read_190 : decode cX12_read 190 = .ok (.istore_n 2, 1) := by decide +kernel
theorem dX12_read_191 : decode cX12_read 191 = .ok (.iload_n 2, 1) := by decide +kernel
theorem dX12_read_192 : decode cX12_read 192 = .ok (.iload_n 1, 1) := by decide +kernel
theorem dX12_read_193 : decode cX12_read 193 = .ok (.if_icmp .ge 30, 3) := by decide +kernel
theorem dX12_read_196 : decode cX12_read 196 = .ok (.aload_n 0, 1) := by decide +kernel
theorem dX12_read_197 : decode cX12_read 197 = .ok (.iload_n 2, 1) := by decide +kernel
theorem dX12_read_198 : decode cX12_read 198 = .ok (.invokevirtual 156, 3) := by decide +kernel
theorem dX12_read_201 : decode cX12_read 201 = .ok (.aload_n 0, 1) := by decide +kernel
theorem dX12_read_202 : decode cX12_read 202 = .ok (.getfield 17, 3) := by decide +kernel
theorem dX12_read_205 : decode cX12_read 205 = .ok (.iload_n 2, 1) := by decide +kernel
theorem dX12_read_206 : decode cX12_read 206 = .ok (.laload, 1) := by decide +kernel
theorem dX12_read_207 : decode cX12_read 207 = .ok (.lcmp, 1) := by decide +kernel
theorem dX12_read_208 : decode cX12_read 208 = .ok (.ifCond .eq 9, 3) := by decide +kernel
theorem dX12_read_211 : decode cX12_read 211 = .ok (.aload_n 0, 1) := by decide +kernel
theorem dX12_read_212 : decode cX12_read 212 = .ok (.iconst 2, 1) := by decide +kernel
theorem dX12_read_213 : decode cX12_read 213 = .ok (.iload_n 2, 1) := by decide +kernel
theorem dX12_read_214 : decode cX12_read 214 = .ok (.invokevirtual 159, 3) := by decide +kernel
theorem dX12_read_217 : decode cX12_read 217 = .ok (.iinc 2 1, 3) := by decide +kernel
theorem dX12_read_220 : decode cX12_read 220 = .ok (.goto (-29), 3) := by decide +kernel
theorem dX12_read_223 : decode cX12_read 223 = .ok (.iload_n 1, 1) := by decide +kernel
theorem dX12_read_224 : decode cX12_read 224 = .ok (.ireturn, 1) := by decide +kernel
theorem dX12_octet_0 : decode cX12_octet 0 = .ok (.aload_n 0, 1) := by decide +kernel
theorem dX12_octet_1 : decode cX12_octet 1 = .ok (.iload_n 1, 1) := by decide +kernel
theorem dX12_octet_2 : decode cX12_octet 2 = .ok (.i2l, 1) := by decide +kernel
theorem dX12_octet_3 : decode cX12_octet 3 = .ok (.lconst 0, 1) := by decide +kernel
theorem dX12_octet_4 : decode cX12_octet 4 = .ok (.aload_n 0, 1) := by decide +kernel
theorem dX12_octet_5 : decode cX12_octet 5 = .ok (.getfield 111, 3) := by decide +kernel
theorem dX12_octet_8 : decode cX12_octet 8 = .ok (.iconst 1, 1) := by decide +kernel
theorem dX12_octet_9 : decode cX12_octet 9 = .ok (.isub, 1) := by decide +kernel
theorem dX12_octet_10 : decode cX12_octet 10 = .ok (.i2l, 1) := by decide +kernel
theorem dX12_octet_11 : decode cX12_octet 11 = .ok (.invokestatic 102, 3) := by decide +kernel
theorem dX12_octet_14 : decode cX12_octet 14 = .ok (.ifCond .eq 25, 3) := by decide +kernel
theorem dX12_octet_17 : decode cX12_octet 17 = .ok (.iload_n 2, 1) := by decide +kernel
theorem dX12_octet_18 : decode cX12_octet 18 = .ok (.i2l, 1) := by decide +kernel
theorem dX12_octet_19 : decode cX12_octet 19 = .ok (.lconst 0, 1) := by decide +kernel
theorem dX12_octet_20 : decode cX12_octet 20 = .ok (.aload_n 0, 1) := by decide +kernel
theorem dX12_octet_21 : decode cX12_octet 21 = .ok (.getfield 23, 3) := by decide +kernel
theorem dX12_octet_24 : decode cX12_octet 24 = .ok (.iload_n 1, 1) := by decide +kernel
theorem dX12_octet_25 : decode cX12_octet 25 = .ok (.iaload, 1) := by decide +kernel
theorem dX12_octet_26 : decode cX12_octet 26 = .ok (.iconst 1, 1) := by decide +kernel
theorem dX12_octet_27 : decode cX12_octet 27 = .ok (.isub, 1) := by decide +kernel
theorem dX12_octet_28 : decode cX12_octet 28 = .ok (.i2l, 1) := by decide +kernel
theorem dX12_octet_29 : decode cX12_octet 29 = .ok (.invokestatic 102, 3) := by decide +kernel
theorem dX12_octet_32 : decode cX12_octet 32 = .ok (.ifCond .eq 7, 3) := by decide +kernel
theorem dX12_octet_35 : decode cX12_octet 35 = .ok (.iconst 0, 1) := by decide +kernel
theorem dX12_octet_36 : decode cX12_octet 36 = .ok (.goto 4, 3) := by decide +kernel
theorem dX12_octet_39 : decode cX12_octet 39 = .ok (.iconst 1, 1) := by decide +kernel
theorem dX12_octet_40 : decode cX12_octet 40 = .ok (.putfield 96, 3) := by decide +kernel
theorem dX12_octet_43 : decode cX12_octet 43 = .ok (.aload_n 0, 1) := by decide +kernel
theorem dX12_octet_44 : decode cX12_octet 44 = .ok (.getfield 96, 3) := by decide +kernel
theorem dX12_octet_47 : decode cX12_octet 47 = .ok (.ifCond .le 7, 3) := by decide +kernel
theorem dX12_octet_50 : decode cX12_octet 50 = .ok (.iconst 0, 1) := by decide +kernel
theorem dX12_octet_51 : decode cX12_octet 51 = .ok (.goto 16, 3) := by decide +kernel
theorem dX12_octet_54 : decode cX12_octet 54 = .ok (.aload_n 0, 1) := by decide +kernel
theorem dX12_octet_55 : decode cX12_octet 55 = .ok (.getfield 7, 3) := by decide +kernel
theorem dX12_octet_58 : decode cX12_octet 58 = .ok (.aload_n 0, 1) := by decide +kernel
theorem dX12_octet_59 : decode cX12_octet 59 = .ok (.getfield 20, 3) := by decide +kernel
theorem dX12_octet_62 : decode cX12_octet 62 = .ok (.iload_n 1, 1) := by decide +kernel
theorem dX12_octet_63 : decode cX12_octet 63 = .ok (.iaload, 1) := by decide +kernel
theorem dX12_octet_64 : decode cX12_octet 64 = .ok (.iload_n 2, 1) := by decide +kernel
theorem dX12_octet_65 : decode cX12_octet 65 = .ok (.iadd, 1) := by decide +kernel
theorem dX12_octet_66 : decode cX12_octet 66 = .ok (.iaload, 1) := by decide +kernel
theorem dX12_octet_67 : decode cX12_octet 67 = .ok (.ireturn, 1) := by decide +kernel
theorem dX12_sum_0 : decode cX12_sum 0 = .ok (.aload_n 0, 1) := by decide +kernel
theorem dX12_sum_1 : decode cX12_sum 1 = .ok (.iconst 0, 1) := by decide +kernel
theorem dX12_sum_2 : decode cX12_sum 2 = .ok (.putfield 96, 3) := by decide +kernel
theorem dX12_sum_5 : decode cX12_sum 5 = .ok (.iload_n 1, 1) := by decide +kernel
theorem dX12_sum_6 : decode cX12_sum 6 = .ok (.i2l, 1) := by decide +kernel
theorem dX12_sum_7 : decode cX12_sum 7 = .ok (.lconst 0, 1) := by decide +kernel
theorem dX12_sum_8 : decode cX12_sum 8 = .ok (.aload_n 0, 1) := by decide +kernel
theorem dX12_sum_9 : decode cX12_sum 9 = .ok (.getfield 111, 3) := by decide +kernel
theorem dX12_sum_12 : decode cX12_sum 12 = .ok (.iconst 1, 1) := by decide +kernel
theorem dX12_sum_13 : decode cX12_sum 13 = .ok (.isub, 1) := by decide +kernel
theorem dX12_sum_14 : decode cX12_sum 14 = .ok (.i2l, 1) := by decide +kernel
theorem dX12_sum_15 : decode cX12_sum 15 = .ok (.invokestatic 102, 3) := by decide +kernel
theorem dX12_sum_18 : decode cX12_sum 18 = .ok (.ifCond .eq 11, 3) := by decide +kernel
theorem dX12_sum_21 : decode cX12_sum 21 = .ok (.aload_n 0, 1) := by decide +kernel
theorem dX12_sum_22 : decode cX12_sum 22 = .ok (.iload_n 1, 1) := by decide +kernel
theorem dX12_sum_23 : decode cX12_sum 23 = .ok (.invokevirtual 156, 3) := by decide +kernel
theorem dX12_sum_26 : decode cX12_sum 26 = .ok (.goto 6, 3) := by decide +kernel
theorem dX12_sum_29 : decode cX12_sum 29 = .ok (.ldc2_w 163, 3) := by decide +kernel
theorem dX12_sum_32 : decode cX12_sum 32 = .ok (.lreturn, 1) := by decide +kernel
theorem dX12_signs_0 : decode cX12_signs 0 = .ok (.aload_n 0, 1) := by decide +kernel
theorem dX12_signs_1 : decode cX12_signs 1 = .ok (.iconst 0, 1) := by decide +kernel
theorem dX12_signs_2 : decode cX12_signs 2 = .ok (.putfield 114, 3) := by decide +kernel
theorem dX12_signs_5 : decode cX12_signs 5 = .ok (.aload_n 0, 1) := by decide +kernel
theorem dX12_signs_6 : decode cX12_signs 6 = .ok (.aload_n 0, 1) := by decide +kernel
theorem dX12_signs_7 : decode cX12_signs 7 = .ok (.ldc2_w 165, 3) := by decide +kernel
theorem dX12_signs_10 : decode cX12_signs 10 = .ok (.invokevirtual 127, 3) := by decide +kernel
theorem dX12_signs_13 : decode cX12_signs 13 = .ok (.ldc2_w 167, 3) := by decide +kernel
theorem dX12_signs_16 : decode cX12_signs 16 = .ok (.invokevirtual 169, 3) := by decide +kernel
theorem dX12_signs_19 : decode cX12_signs 19 = .ok (.istore_n 1, 1) := by decide +kernel
theorem dX12_signs_20 : decode cX12_signs 20 = .ok (.aload_n 0, 1) := by decide +kernel
theorem dX12_signs_21 : decode cX12_signs 21 = .ok (.getfield 114, 3) := by decide +kernel
theorem dX12_signs_24 : decode cX12_signs 24 = .ok (.ifCond .eq 7, 3) := by decide +kernel
theorem dX12_signs_27 : decode cX12_signs 27 = .ok (.iconst 0, 1) := by decide +kernel
theorem dX12_signs_28 : decode cX12_signs 28 = .ok (.goto 17, 3) := by decide +kernel
theorem dX12_signs_31 : decode cX12_signs 31 = .ok (.iload_n 1, 1) := by decide +kernel
theorem dX12_signs_32 : decode cX12_signs 32 = .ok (.sipush 200, 3) := by decide +kernel
theorem dX12_signs_35 : decode cX12_signs 35 = .ok (.if_icmp .le 9, 3) := by decide +kernel
theorem dX12_signs_38 : decode cX12_signs 38 = .ok (.sipush 200, 3) := by decide +kernel
theorem dX12_signs_41 : decode cX12_signs 41 = .ok (.goto 4, 3) := by decide +kernel
theorem dX12_signs_44 : decode cX12_signs 44 = .ok (.iload_n 1, 1) := by decide +kernel
theorem dX12_signs_45 : decode cX12_signs 45 = .ok (.ireturn, 1) := by decide +kernel
theorem dX12_isSign_0 : decode cX12_isSign 0 = .ok (.iload_n 1, 1) := by decide +kernel
theorem dX12_isSign_1 : decode cX12_isSign 1 = .ok (.i2l, 1) := by decide +kernel
theorem dX12_isSign_2 : decode cX12_isSign 2 = .ok (.lconst 0, 1) := by decide +kernel
theorem dX12_isSign_3 : decode cX12_isSign 3 = .ok (.aload_n 0, 1) := by decide +kernel
theorem dX12_isSign_4 : decode cX12_isSign 4 = .ok (.invokevirtual 173, 3) := by decide +kernel
theorem dX12_isSign_7 : decode cX12_isSign 7 = .ok (.iconst 1, 1) := by decide +kernel
theorem dX12_isSign_8 : decode cX12_isSign 8 = .ok (.isub, 1) := by decide +kernel
theorem dX12_isSign_9 : decode cX12_isSign 9 = .ok (.i2l, 1) := by decide +kernel
theorem dX12_isSign_10 : decode cX12_isSign 10 = .ok (.invokestatic 102, 3) := by decide +kernel
theorem dX12_isSign_13 : decode cX12_isSign 13 = .ok (.ireturn, 1) := by decide +kernel
theorem dX12_count_0 : decode cX12_count 0 = .ok (.aload_n 0, 1) := by decide +kernel
theorem dX12_count_1 : decode cX12_count 1 = .ok (.iconst 0, 1) := by decide +kernel
theorem dX12_count_2 : decode cX12_count 2 = .ok (.putfield 96, 3) := by decide +kernel
theorem dX12_count_5 : decode cX12_count 5 = .ok (.iconst 0, 1) := by decide +kernel
theorem dX12_count_6 : decode cX12_count 6 = .ok (.istore_n 2, 1) := by decide +kernel
theorem dX12_count_7 : decode cX12_count 7 = .ok (.iconst 0, 1) := by decide +kernel
theorem dX12_count_8 : decode cX12_count 8 = .ok (.istore_n 3, 1) := by decide +kernel
theorem dX12_count_9 : decode cX12_count 9 = .ok (.iload_n 3, 1) := by decide +kernel
theorem dX12_count_10 : decode cX12_count 10 = .ok (.sipush 200, 3) := by decide +kernel
theorem dX12_count_13 : decode cX12_count 13 = .ok (.if_icmp .ge 26, 3) := by decide +kernel
theorem dX12_count_16 : decode cX12_count 16 = .ok (.iload_n 2, 1) := by decide +kernel
theorem dX12_count_17 : decode cX12_count 17 = .ok (.aload_n 0, 1) := by decide +kernel
theorem dX12_count_18 : decode cX12_count 18 = .ok (.getfield 26, 3) := by decide +kernel
theorem dX12_count_21 : decode cX12_count 21 = .ok (.iload_n 3, 1) := by decide +kernel
theorem dX12_count_22 : decode cX12_count 22 = .ok (.baload, 1) := by decide +kernel
theorem dX12_count_23 : decode cX12_count 23 = .ok (.ifCond .eq 7, 3) := by decide +kernel
theorem dX12_count_26 : decode cX12_count 26 = .ok (.iconst 1, 1) := by decide +kernel
theorem dX12_count_27 : decode cX12_count 27 = .ok (.goto 4, 3) := by decide +kernel
theorem dX12_count_30 : decode cX12_count 30 = .ok (.iconst 0, 1) := by decide +kernel
theorem dX12_count_31 : decode cX12_count 31 = .ok (.iadd, 1) := by decide +kernel
theorem dX12_count_32 : decode cX12_count 32 = .ok (.istore_n 2, 1) := by decide +kernel
theorem dX12_count_33 : decode cX12_count 33 = .ok (.iinc 3 1, 3) := by decide +kernel
theorem dX12_count_36 : decode cX12_count 36 = .ok (.goto (-27), 3) := by decide +kernel
theorem dX12_count_39 : decode cX12_count 39 = .ok (.iload_n 1, 1) := by decide +kernel
theorem dX12_count_40 : decode cX12_count 40 = .ok (.ifCond .ne 10, 3) := by decide +kernel
theorem dX12_count_43 : decode cX12_count 43 = .ok (.aload_n 0, 1) := by decide +kernel
theorem dX12_count_44 : decode cX12_count 44 = .ok (.getfield 111, 3) := by decide +kernel
theorem dX12_count_47 : decode cX12_count 47 = .ok (.goto 49, 3) := by decide +kernel
theorem dX12_count_50 : decode cX12_count 50 = .ok (.iload_n 1, 1) := by decide +kernel
theorem dX12_count_51 : decode cX12_count 51 = .ok (.iconst 1, 1) := by decide +kernel
theorem dX12_count_52 : decode cX12_count 52 = .ok (.if_icmp .ne 10, 3) := by decide +kernel
theorem dX12_count_55 : decode cX12_count 55 = .ok (.aload_n 0, 1) := by decide +kernel
theorem dX12_count_56 : decode cX12_count 56 = .ok (.invokevirtual 173, 3) := by decide +kernel
theorem dX12_count_59 : decode cX12_count 59 = .ok (.goto 37, 3) := by decide +kernel
theorem dX12_count_62 : decode cX12_count 62 = .ok (.iload_n 1, 1) := by decide +kernel
theorem dX12_count_63 : decode cX12_count 63 = .ok (.iconst 2, 1) := by decide +kernel
theorem dX12_count_64 : decode cX12_count 64 = .ok (.if_icmp .ne 7, 3) := by decide +kernel
theorem dX12_count_67 : decode cX12_count 67 = .ok (.iload_n 2, 1) := by decide +kernel
theorem dX12_count_68 : decode cX12_count 68 = .ok (.goto 28, 3) := by decide +kernel
theorem dX12_count_71 : decode cX12_count 71 = .ok (.iload_n 1, 1) := by decide +kernel
theorem dX12_count_72 : decode cX12_count 72 = .ok (.iconst 3, 1) := by decide +kernel
theorem dX12_count_73 : decode cX12_count 73 = .ok (.if_icmp .ne 10, 3) := by decide +kernel
theorem dX12_count_76 : decode cX12_count 76 = .ok (.aload_n 0, 1) := by decide +kernel
theorem dX12_count_77 : decode cX12_count 77 = .ok (.getfield 136, 3) := by decide +kernel
theorem dX12_count_80 : decode cX12_count 80 = .ok (.goto 16, 3) := by decide +kernel
theorem dX12_count_83 : decode cX12_count 83 = .ok (.iload_n 1, 1) := by decide +kernel
theorem dX12_count_84 : decode cX12_count 84 = .ok (.iconst 4, 1) := by decide +kernel
theorem dX12_count_85 : decode cX12_count 85 = .ok (.if_icmp .ne 10, 3) := by decide +kernel
theorem dX12_count_88 : decode cX12_count 88 = .ok (.aload_n 0, 1) := by decide +kernel
theorem dX12_count_89 : decode cX12_count 89 = .ok (.getfield 139, 3) := by decide +kernel
theorem dX12_count_92 : decode cX12_count 92 = .ok (.goto 4, 3) := by decide +kernel
theorem dX12_count_95 : decode cX12_count 95 = .ok (.iconst (-1), 1) := by decide +kernel
theorem dX12_count_96 : decode cX12_count 96 = .ok (.ireturn, 1) := by decide +kernel
theorem dX12_locaAt_0 : decode cX12_locaAt 0 = .ok (.aload_n 0, 1) := by decide +kernel
theorem dX12_locaAt_1 : decode cX12_locaAt 1 = .ok (.aload_n 0, 1) := by decide +kernel
theorem dX12_locaAt_2 : decode cX12_locaAt 2 = .ok (.ldc2_w 125, 3) := by decide +kernel
theorem dX12_locaAt_5 : decode cX12_locaAt 5 = .ok (.invokevirtual 127, 3) := by decide +kernel
theorem dX12_locaAt_8 : decode cX12_locaAt 8 = .ok (.ldc2_w 177, 3) := by decide +kernel
theorem dX12_locaAt_11 : decode cX12_locaAt 11 = .ok (.invokevirtual 169, 3) := by decide +kernel
theorem dX12_locaAt_14 : decode cX12_locaAt 14 = .ok (.iconst 1, 1) := by decide +kernel
theorem dX12_locaAt_15 : decode cX12_locaAt 15 = .ok (.if_icmp .ne 7, 3) := by decide +kernel
theorem dX12_locaAt_18 : decode cX12_locaAt 18 = .ok (.iconst 1, 1) := by decide +kernel
theorem dX12_locaAt_19 : decode cX12_locaAt 19 = .ok (.goto 4, 3) := by decide +kernel
theorem dX12_locaAt_22 : decode cX12_locaAt 22 = .ok (.iconst 0, 1) := by decide +kernel
theorem dX12_locaAt_23 : decode cX12_locaAt 23 = .ok (.istore_n 2, 1) := by decide +kernel
theorem dX12_locaAt_24 : decode cX12_locaAt 24 = .ok (.iload_n 2, 1) := by decide +kernel
theorem dX12_locaAt_25 : decode cX12_locaAt 25 = .ok (.ifCond .eq 24, 3) := by decide +kernel
theorem dX12_locaAt_28 : decode cX12_locaAt 28 = .ok (.aload_n 0, 1) := by decide +kernel
theorem dX12_locaAt_29 : decode cX12_locaAt 29 = .ok (.aload_n 0, 1) := by decide +kernel
theorem dX12_locaAt_30 : decode cX12_locaAt 30 = .ok (.ldc2_w 179, 3) := by decide +kernel
theorem dX12_locaAt_33 : decode cX12_locaAt 33 = .ok (.invokevirtual 127, 3) := by decide +kernel
theorem dX12_locaAt_36 : decode cX12_locaAt 36 = .ok (.ldc2_w 167, 3) := by decide +kernel
theorem dX12_locaAt_39 : decode cX12_locaAt 39 = .ok (.iload_n 1, 1) := by decide +kernel
theorem dX12_locaAt_40 : decode cX12_locaAt 40 = .ok (.i2l, 1) := by decide +kernel
theorem dX12_locaAt_41 : decode cX12_locaAt 41 = .ok (.lmul, 1) := by decide +kernel
theorem dX12_locaAt_42 : decode cX12_locaAt 42 = .ok (.iconst 4, 1) := by decide +kernel
theorem dX12_locaAt_43 : decode cX12_locaAt 43 = .ok (.invokevirtual 120, 3) := by decide +kernel
theorem dX12_locaAt_46 : decode cX12_locaAt 46 = .ok (.goto 25, 3) := by decide +kernel
theorem dX12_locaAt_49 : decode cX12_locaAt 49 = .ok (.ldc2_w 181, 3) := by decide +kernel
theorem dX12_locaAt_52 : decode cX12_locaAt 52 = .ok (.aload_n 0, 1) := by decide +kernel
theorem dX12_locaAt_53 : decode cX12_locaAt 53 = .ok (.aload_n 0, 1) := by decide +kernel
theorem dX12_locaAt_54 : decode cX12_locaAt 54 = .ok (.ldc2_w 179, 3) := by decide +kernel
theorem dX12_locaAt_57 : decode cX12_locaAt 57 = .ok (.invokevirtual 127, 3) := by decide +kernel
theorem dX12_locaAt_60 : decode cX12_locaAt 60 = .ok (.ldc2_w 181, 3) := by decide +kernel
theorem dX12_locaAt_63 : decode cX12_locaAt 63 = .ok (.iload_n 1, 1) := by decide +kernel
theorem dX12_locaAt_64 : decode cX12_locaAt 64 = .ok (.i2l, 1) := by decide +kernel
theorem dX12_locaAt_65 : decode cX12_locaAt 65 = .ok (.lmul, 1) := by decide +kernel
theorem dX12_locaAt_66 : decode cX12_locaAt 66 = .ok (.invokevirtual 169, 3) := by decide +kernel
theorem dX12_locaAt_69 : decode cX12_locaAt 69 = .ok (.i2l, 1) := by decide +kernel
theorem dX12_locaAt_70 : decode cX12_locaAt 70 = .ok (.lmul, 1) := by decide +kernel
theorem dX12_locaAt_71 : decode cX12_locaAt 71 = .ok (.lreturn, 1) := by decide +kernel
theorem dX12_lookData_0 : decode cX12_lookData 0 = .ok (.aload_n 0, 1) := by decide +kernel
theorem dX12_lookData_1 : decode cX12_lookData 1 = .ok (.iconst 0, 1) := by decide +kernel
theorem dX12_lookData_2 : decode cX12_lookData 2 = .ok (.putfield 114, 3) := by decide +kernel
theorem dX12_lookData_5 : decode cX12_lookData 5 = .ok (.aload_n 0, 1) := by decide +kernel
theorem dX12_lookData_6 : decode cX12_lookData 6 = .ok (.iload_n 1, 1) := by decide +kernel
theorem dX12_lookData_7 : decode cX12_lookData 7 = .ok (.invokevirtual 183, 3) := by decide +kernel
theorem dX12_lookData_10 : decode cX12_lookData 10 = .ok (.lstore_n 2, 1) := by decide +kernel
theorem dX12_lookData_11 : decode cX12_lookData 11 = .ok (.aload_n 0, 1) := by decide +kernel
theorem dX12_lookData_12 : decode cX12_lookData 12 = .ok (.iload_n 1, 1) := by decide +kernel
theorem dX12_lookData_13 : decode cX12_lookData 13 = .ok (.iconst 1, 1) := by decide +kernel
theorem dX12_lookData_14 : decode cX12_lookData 14 = .ok (.iadd, 1) := by decide +kernel
theorem dX12_lookData_15 : decode cX12_lookData 15 = .ok (.invokevirtual 183, 3) := by decide +kernel
theorem dX12_lookData_18 : decode cX12_lookData 18 = .ok (.lstore 4, 2) := by decide +kernel
theorem dX12_lookData_20 : decode cX12_lookData 20 = .ok (.aload_n 0, 1) := by decide +kernel
theorem dX12_lookData_21 : decode cX12_lookData 21 = .ok (.lload_n 2, 1) := by decide +kernel
theorem dX12_lookData_22 : decode cX12_lookData 22 = .ok (.lload 4, 2) := by decide +kernel
theorem dX12_lookData_24 : decode cX12_lookData 24 = .ok (.lcmp, 1) := by decide +kernel
theorem dX12_lookData_25 : decode cX12_lookData 25 = .ok (.ifCond .ne 7, 3) := by decide +kernel
theorem dX12_lookData_28 : decode cX12_lookData 28 = .ok (.iconst 1, 1) := by decide +kernel
theorem dX12_lookData_29 : decode cX12_lookData 29 = .ok (.goto 4, 3) := by decide +kernel
theorem dX12_lookData_32 : decode cX12_lookData 32 = .ok (.iconst 0, 1) := by decide +kernel
theorem dX12_lookData_33 : decode cX12_lookData 33 = .ok (.putfield 186, 3) := by decide +kernel
theorem dX12_lookData_36 : decode cX12_lookData 36 = .ok (.aload_n 0, 1) := by decide +kernel
theorem dX12_lookData_37 : decode cX12_lookData 37 = .ok (.lload_n 2, 1) := by decide +kernel
theorem dX12_lookData_38 : decode cX12_lookData 38 = .ok (.ldc2_w 189, 3) := by decide +kernel
theorem dX12_lookData_41 : decode cX12_lookData 41 = .ok (.lcmp, 1) := by decide +kernel
theorem dX12_lookData_42 : decode cX12_lookData 42 = .ok (.ifCond .le 9, 3) := by decide +kernel
theorem dX12_lookData_45 : decode cX12_lookData 45 = .ok (.sipush 1601, 3) := by decide +kernel
theorem dX12_lookData_48 : decode cX12_lookData 48 = .ok (.goto 5, 3) := by decide +kernel
theorem dX12_lookData_51 : decode cX12_lookData 51 = .ok (.lload_n 2, 1) := by decide +kernel
theorem dX12_lookData_52 : decode cX12_lookData 52 = .ok (.l2i, 1) := by decide +kernel
theorem dX12_lookData_53 : decode cX12_lookData 53 = .ok (.putfield 191, 3) := by decide +kernel
theorem dX12_lookData_56 : decode cX12_lookData 56 = .ok (.aload_n 0, 1) := by decide +kernel
theorem dX12_lookData_57 : decode cX12_lookData 57 = .ok (.lload 4, 2) := by decide +kernel
theorem dX12_lookData_59 : decode cX12_lookData 59 = .ok (.ldc2_w 189, 3) := by decide +kernel
theorem dX12_lookData_62 : decode cX12_lookData 62 = .ok (.lcmp, 1) := by decide +kernel
theorem dX12_lookData_63 : decode cX12_lookData 63 = .ok (.ifCond .le 9, 3) := by decide +kernel
theorem dX12_lookData_66 : decode cX12_lookData 66 = .ok (.sipush 1601, 3) := by decide +kernel
theorem dX12_lookData_69 : decode cX12_lookData 69 = .ok (.goto 6, 3) := by decide +kernel
theorem dX12_lookData_72 : decode cX12_lookData 72 = .ok (.lload 4, 2) := by decide +kernel
theorem dX12_lookData_74 : decode cX12_lookData 74 = .ok (.l2i, 1) := by decide +kernel
theorem dX12_lookData_75 : decode cX12_lookData 75 = .ok (.putfield 194, 3) := by decide +kernel
theorem dX12_lookData_78 : decode cX12_lookData 78 = .ok (.aload_n 0, 1) := by decide +kernel
theorem dX12_lookData_79 : decode cX12_lookData 79 = .ok (.getfield 114, 3) := by decide +kernel
theorem dX12_lookData_82 : decode cX12_lookData 82 = .ok (.ifCond .ne 7, 3) := by decide +kernel
theorem dX12_lookData_85 : decode cX12_lookData 85 = .ok (.iconst 1, 1) := by decide +kernel
theorem dX12_lookData_86 : decode cX12_lookData 86 = .ok (.goto 4, 3) := by decide +kernel
theorem dX12_lookData_89 : decode cX12_lookData 89 = .ok (.iconst 0, 1) := by decide +kernel
theorem dX12_lookData_90 : decode cX12_lookData 90 = .ok (.ireturn, 1) := by decide +kernel
theorem dX12_data_0 : decode cX12_data 0 = .ok (.aload_n 0, 1) := by decide +kernel
theorem dX12_data_1 : decode cX12_data 1 = .ok (.getfield 191, 3) := by decide +kernel
theorem dX12_data_4 : decode cX12_data 4 = .ok (.iload_n 1, 1) := by decide +kernel
theorem dX12_data_5 : decode cX12_data 5 = .ok (.iadd, 1) := by decide +kernel
theorem dX12_data_6 : decode cX12_data 6 = .ok (.iload_n 2, 1) := by decide +kernel
theorem dX12_data_7 : decode cX12_data 7 = .ok (.iadd, 1) := by decide +kernel
theorem dX12_data_8 : decode cX12_data 8 = .ok (.aload_n 0, 1) := by decide +kernel
theorem dX12_data_9 : decode cX12_data 9 = .ok (.getfield 194, 3) := by decide +kernel
theorem dX12_data_12 : decode cX12_data 12 = .ok (.if_icmp .le 10, 3) := by decide +kernel
theorem dX12_data_15 : decode cX12_data 15 = .ok (.aload_n 0, 1) := by decide +kernel
theorem dX12_data_16 : decode cX12_data 16 = .ok (.iconst 1, 1) := by decide +kernel
theorem dX12_data_17 : decode cX12_data 17 = .ok (.putfield 114, 3) := by decide +kernel
theorem dX12_data_20 : decode cX12_data 20 = .ok (.iconst 0, 1) := by decide +kernel
theorem dX12_data_21 : decode cX12_data 21 = .ok (.ireturn, 1) := by decide +kernel
theorem dX12_data_22 : decode cX12_data 22 = .ok (.aload_n 0, 1) := by decide +kernel
theorem dX12_data_23 : decode cX12_data 23 = .ok (.aload_n 0, 1) := by decide +kernel
theorem dX12_data_24 : decode cX12_data 24 = .ok (.ldc2_w 197, 3) := by decide +kernel
theorem dX12_data_27 : decode cX12_data 27 = .ok (.invokevirtual 127, 3) := by decide +kernel
theorem dX12_data_30 : decode cX12_data 30 = .ok (.aload_n 0, 1) := by decide +kernel
theorem dX12_data_31 : decode cX12_data 31 = .ok (.getfield 191, 3) := by decide +kernel
theorem dX12_data_34 : decode cX12_data 34 = .ok (.iload_n 1, 1) := by decide +kernel
theorem dX12_data_35 : decode cX12_data 35 = .ok (.iadd, 1) := by decide +kernel
theorem dX12_data_36 : decode cX12_data 36 = .ok (.i2l, 1) := by decide +kernel
theorem dX12_data_37 : decode cX12_data 37 = .ok (.iload_n 2, 1) := by decide +kernel
theorem dX12_data_38 : decode cX12_data 38 = .ok (.invokevirtual 120, 3) := by decide +kernel
theorem dX12_data_41 : decode cX12_data 41 = .ok (.l2i, 1) := by decide +kernel
theorem dX12_data_42 : decode cX12_data 42 = .ok (.ireturn, 1) := by decide +kernel
theorem dX12_addSimple_0 : decode cX12_addSimple 0 = .ok (.bipush 10, 2) := by decide +kernel
theorem dX12_addSimple_2 : decode cX12_addSimple 2 = .ok (.istore_n 2, 1) := by decide +kernel
theorem dX12_addSimple_3 : decode cX12_addSimple 3 = .ok (.iconst (-1), 1) := by decide +kernel
theorem dX12_addSimple_4 : decode cX12_addSimple 4 = .ok (.istore_n 3, 1) := by decide +kernel
theorem dX12_addSimple_5 : decode cX12_addSimple 5 = .ok (.aload_n 0, 1) := by decide +kernel
theorem dX12_addSimple_6 : decode cX12_addSimple 6 = .ok (.getfield 139, 3) := by decide +kernel
theorem dX12_addSimple_9 : decode cX12_addSimple 9 = .ok (.istore 4, 2) := by decide +kernel
theorem dX12_addSimple_11 : decode cX12_addSimple 11 = .ok (.iconst 0, 1) := by decide +kernel
theorem dX12_addSimple_12 : decode cX12_addSimple 12 = .ok (.istore 5, 2) := by decide +kernel
theorem dX12_addSimple_14 : decode cX12_addSimple 14 = .ok (.iload 5, 2) := by decide +kernel
theorem dX12_addSimple_16 : decode cX12_addSimple 16 = .ok (.iload_n 1, 1) := by decide +kernel
theorem dX12_addSimple_17 : decode cX12_addSimple 17 = .ok (.if_icmp .ge 91, 3) := by decide +kernel
theorem dX12_addSimple_20 : decode cX12_addSimple 20 = .ok (.aload_n 0, 1) := by decide +kernel
theorem dX12_addSimple_21 : decode cX12_addSimple 21 = .ok (.getfield 114, 3) := by decide +kernel
theorem dX12_addSimple_24 : decode cX12_addSimple 24 = .ok (.ifCond .ne 84, 3) := by decide +kernel
theorem dX12_addSimple_27 : decode cX12_addSimple 27 = .ok (.aload_n 0, 1) := by decide +kernel
theorem dX12_addSimple_28 : decode cX12_addSimple 28 = .ok (.iload_n 2, 1) := by decide +kernel
theorem dX12_addSimple_29 : decode cX12_addSimple 29 = .ok (.iconst 2, 1) := by decide +kernel
theorem dX12_addSimple_30 : decode cX12_addSimple 30 = .ok (.invokevirtual 199, 3) := by decide +kernel
theorem dX12_addSimple_33 : decode cX12_addSimple 33 = .ok (.istore 6, 2) := by decide +kernel
theorem dX12_addSimple_35 : decode cX12_addSimple 35 = .ok (.iinc 2 2, 3) := by decide +kernel
theorem dX12_addSimple_38 : decode cX12_addSimple 38 = .ok (.aload_n 0, 1) := by decide +kernel
theorem dX12_addSimple_39 : decode cX12_addSimple 39 = .ok (.getfield 114, 3) := by decide +kernel
theorem dX12_addSimple_42 : decode cX12_addSimple 42 = .ok (.ifCond .ne 23, 3) := by decide +kernel
theorem dX12_addSimple_45 : decode cX12_addSimple 45 = .ok (.iload 6, 2) := by decide +kernel
theorem dX12_addSimple_47 : decode cX12_addSimple 47 = .ok (.iload_n 3, 1) := by decide +kernel
theorem dX12_addSimple_48 : decode cX12_addSimple 48 = .ok (.if_icmp .le 17, 3) := by decide +kernel
theorem dX12_addSimple_51 : decode cX12_addSimple 51 = .ok (.aload_n 0, 1) := by decide +kernel
theorem dX12_addSimple_52 : decode cX12_addSimple 52 = .ok (.getfield 136, 3) := by decide +kernel
theorem dX12_addSimple_55 : decode cX12_addSimple 55 = .ok (.iload 6, 2) := by decide +kernel
theorem dX12_addSimple_57 : decode cX12_addSimple 57 = .ok (.iadd, 1) := by decide +kernel
theorem dX12_addSimple_58 : decode cX12_addSimple 58 = .ok (.iconst 1, 1) := by decide +kernel
theorem dX12_addSimple_59 : decode cX12_addSimple 59 = .ok (.iadd, 1) := by decide +kernel
theorem dX12_addSimple_60 : decode cX12_addSimple 60 = .ok (.bipush 120, 2) := by decide +kernel
theorem dX12_addSimple_62 : decode cX12_addSimple 62 = .ok (.if_icmp .le 11, 3) := by decide +kernel
theorem dX12_addSimple_65 : decode cX12_addSimple 65 = .ok (.aload_n 0, 1) := by decide +kernel
theorem dX12_addSimple_66 : decode cX12_addSimple 66 = .ok (.iload 4, 2) := by decide +kernel
theorem dX12_addSimple_68 : decode cX12_addSimple 68 = .ok (.putfield 139, 3) := by decide +kernel
theorem dX12_addSimple_71 : decode cX12_addSimple 71 = .ok (.iconst 0, 1) := by decide +kernel
theorem dX12_addSimple_72 : decode cX12_addSimple 72 = .ok (.ireturn, 1) := by decide +kernel
theorem dX12_addSimple_73 : decode cX12_addSimple 73 = .ok (.iload 6, 2) := by decide +kernel
theorem dX12_addSimple_75 : decode cX12_addSimple 75 = .ok (.istore_n 3, 1) := by decide +kernel
theorem dX12_addSimple_76 : decode cX12_addSimple 76 = .ok (.aload_n 0, 1) := by decide +kernel
theorem dX12_addSimple_77 : decode cX12_addSimple 77 = .ok (.getfield 48, 3) := by decide +kernel
theorem dX12_addSimple_80 : decode cX12_addSimple 80 = .ok (.aload_n 0, 1) := by decide +kernel
theorem dX12_addSimple_81 : decode cX12_addSimple 81 = .ok (.getfield 139, 3) := by decide +kernel
theorem dX12_addSimple_84 : decode cX12_addSimple 84 = .ok (.aload_n 0, 1) := by decide +kernel
theorem dX12_addSimple_85 : decode cX12_addSimple 85 = .ok (.getfield 136, 3) := by decide +kernel
theorem dX12_addSimple_88 : decode cX12_addSimple 88 = .ok (.iload 6, 2) := by decide +kernel
theorem dX12_addSimple_90 : decode cX12_addSimple 90 = .ok (.iadd, 1) := by decide +kernel
theorem dX12_addSimple_91 : decode cX12_addSimple 91 = .ok (.iastore, 1) := by decide +kernel
theorem dX12_addSimple_92 : decode cX12_addSimple 92 = .ok (.aload_n 0, 1) := by decide +kernel
theorem dX12_addSimple_93 : decode cX12_addSimple 93 = .ok (.dup, 1) := by decide +kernel
theorem dX12_addSimple_94 : decode cX12_addSimple 94 = .ok (.getfield 139, 3) := by decide +kernel
theorem dX12_addSimple_97 : decode cX12_addSimple 97 = .ok (.iconst 1, 1) := by decide +kernel
theorem dX12_addSimple_98 : decode cX12_addSimple 98 = .ok (.iadd, 1) := by decide +kernel
theorem dX12_addSimple_99 : decode cX12_addSimple 99 = .ok (.putfield 139, 3) := by decide +kernel
theorem dX12_addSimple_102 : decode cX12_addSimple 102 = .ok (.iinc 5 1, 3) := by decide +kernel
theorem dX12_addSimple_105 : decode cX12_addSimple 105 = .ok (.goto (-91), 3) := by decide +kernel
theorem dX12_addSimple_108 : decode cX12_addSimple 108 = .ok (.iload_n 2, 1) := by decide +kernel
theorem dX12_addSimple_109 : decode cX12_addSimple 109 = .ok (.iconst 2, 1) := by decide +kernel
theorem dX12_addSimple_110 : decode cX12_addSimple 110 = .ok (.aload_n 0, 1) := by decide +kernel
theorem dX12_addSimple_111 : decode cX12_addSimple 111 = .ok (.iload_n 2, 1) := by decide +kernel
theorem dX12_addSimple_112 : decode cX12_addSimple 112 = .ok (.iconst 2, 1) := by decide +kernel
theorem dX12_addSimple_113 : decode cX12_addSimple 113 = .ok (.invokevirtual 199, 3) := by decide +kernel
theorem dX12_addSimple_116 : decode cX12_addSimple 116 = .ok (.iadd, 1) := by decide +kernel
theorem dX12_addSimple_117 : decode cX12_addSimple 117 = .ok (.iadd, 1) := by decide +kernel
theorem dX12_addSimple_118 : decode cX12_addSimple 118 = .ok (.istore_n 2, 1) := by decide +kernel
theorem dX12_addSimple_119 : decode cX12_addSimple 119 = .ok (.iload_n 3, 1) := by decide +kernel
theorem dX12_addSimple_120 : decode cX12_addSimple 120 = .ok (.iconst 1, 1) := by decide +kernel
theorem dX12_addSimple_121 : decode cX12_addSimple 121 = .ok (.iadd, 1) := by decide +kernel
theorem dX12_addSimple_122 : decode cX12_addSimple 122 = .ok (.istore 5, 2) := by decide +kernel
theorem dX12_addSimple_124 : decode cX12_addSimple 124 = .ok (.aload_n 0, 1) := by decide +kernel
theorem dX12_addSimple_125 : decode cX12_addSimple 125 = .ok (.getfield 114, 3) := by decide +kernel
theorem dX12_addSimple_128 : decode cX12_addSimple 128 = .ok (.ifCond .ne 41, 3) := by decide +kernel
theorem dX12_addSimple_131 : decode cX12_addSimple 131 = .ok (.aload_n 0, 1) := by decide +kernel
theorem dX12_addSimple_132 : decode cX12_addSimple 132 = .ok (.getfield 191, 3) := by decide +kernel
theorem dX12_addSimple_135 : decode cX12_addSimple 135 = .ok (.iload_n 2, 1) := by decide +kernel
theorem dX12_addSimple_136 : decode cX12_addSimple 136 = .ok (.iadd, 1) := by decide +kernel
theorem dX12_addSimple_137 : decode cX12_addSimple 137 = .ok (.aload_n 0, 1) := by decide +kernel
theorem dX12_addSimple_138 : decode cX12_addSimple 138 = .ok (.getfield 194, 3) := by decide +kernel
theorem dX12_addSimple_141 : decode cX12_addSimple 141 = .ok (.if_icmp .gt 28, 3) := by decide +kernel
theorem dX12_addSimple_144 : decode cX12_addSimple 144 = .ok (.aload_n 0, 1) := by decide +kernel
theorem dX12_addSimple_145 : decode cX12_addSimple 145 = .ok (.getfield 191, 3) := by decide +kernel
theorem dX12_addSimple_148 : decode cX12_addSimple 148 = .ok (.iload_n 2, 1) := by decide +kernel
theorem dX12_addSimple_149 : decode cX12_addSimple 149 = .ok (.iadd, 1) := by decide +kernel
theorem dX12_addSimple_150 : decode cX12_addSimple 150 = .ok (.aload_n 0, 1) := by decide +kernel
theorem dX12_addSimple_151 : decode cX12_addSimple 151 = .ok (.getfield 23, 3) := by decide +kernel
theorem dX12_addSimple_154 : decode cX12_addSimple 154 = .ok (.aload_n 0, 1) := by decide +kernel
theorem dX12_addSimple_155 : decode cX12_addSimple 155 = .ok (.ldc2_w 197, 3) := by decide +kernel
theorem dX12_addSimple_158 : decode cX12_addSimple 158 = .ok (.invokevirtual 127, 3) := by decide +kernel
theorem dX12_addSimple_161 : decode cX12_addSimple 161 = .ok (.iaload, 1) := by decide +kernel
theorem dX12_addSimple_162 : decode cX12_addSimple 162 = .ok (.if_icmp .gt 7, 3) := by decide +kernel
theorem dX12_addSimple_165 : decode cX12_addSimple 165 = .ok (.iconst 1, 1) := by decide +kernel
theorem dX12_addSimple_166 : decode cX12_addSimple 166 = .ok (.goto 4, 3) := by decide +kernel
theorem dX12_addSimple_169 : decode cX12_addSimple 169 = .ok (.iconst 0, 1) := by decide +kernel
theorem dX12_addSimple_170 : decode cX12_addSimple 170 = .ok (.istore 6, 2) := by decide +kernel
theorem dX12_addSimple_172 : decode cX12_addSimple 172 = .ok (.iconst 0, 1) := by decide +kernel
theorem dX12_addSimple_173 : decode cX12_addSimple 173 = .ok (.istore 7, 2) := by decide +kernel
theorem dX12_addSimple_175 : decode cX12_addSimple 175 = .ok (.iload 7, 2) := by decide +kernel
theorem dX12_addSimple_177 : decode cX12_addSimple 177 = .ok (.iload 5, 2) := by decide +kernel
theorem dX12_addSimple_179 : decode cX12_addSimple 179 = .ok (.if_icmp .ge 111, 3) := by decide +kernel
theorem dX12_addSimple_182 : decode cX12_addSimple 182 = .ok (.iload 6, 2) := by decide +kernel
theorem dX12_addSimple_184 : decode cX12_addSimple 184 = .ok (.ifCond .eq 106, 3) := by decide +kernel
theorem dX12_addSimple_187 : decode cX12_addSimple 187 = .ok (.aload_n 0, 1) := by decide +kernel
theorem dX12_addSimple_188 : decode cX12_addSimple 188 = .ok (.iload_n 2, 1) := by decide +kernel
theorem dX12_addSimple_189 : decode cX12_addSimple 189 = .ok (.iconst 1, 1) := by decide +kernel
theorem dX12_addSimple_190 : decode cX12_addSimple 190 = .ok (.invokevirtual 199, 3) := by decide +kernel
theorem dX12_addSimple_193 : decode cX12_addSimple 193 = .ok (.istore 8, 2) := by decide +kernel
theorem dX12_addSimple_195 : decode cX12_addSimple 195 = .ok (.iinc 2 1, 3) := by decide +kernel
theorem dX12_addSimple_198 : decode cX12_addSimple 198 = .ok (.iconst 0, 1) := by decide +kernel
theorem dX12_addSimple_199 : decode cX12_addSimple 199 = .ok (.istore 9, 2) := by decide +kernel
theorem dX12_addSimple_201 : decode cX12_addSimple 201 = .ok (.iload 8, 2) := by decide +kernel
theorem dX12_addSimple_203 : decode cX12_addSimple 203 = .ok (.bipush 8, 2) := by decide +kernel
theorem dX12_addSimple_205 : decode cX12_addSimple 205 = .ok (.iand, 1) := by decide +kernel
theorem dX12_addSimple_206 : decode cX12_addSimple 206 = .ok (.ifCond .eq 14, 3) := by decide +kernel
theorem dX12_addSimple_209 : decode cX12_addSimple 209 = .ok (.aload_n 0, 1) := by decide +kernel
theorem dX12_addSimple_210 : decode cX12_addSimple 210 = .ok (.iload_n 2, 1) := by decide +kernel
theorem dX12_addSimple_211 : decode cX12_addSimple 211 = .ok (.iconst 1, 1) := by decide +kernel
theorem dX12_addSimple_212 : decode cX12_addSimple 212 = .ok (.invokevirtual 199, 3) := by decide +kernel
theorem dX12_addSimple_215 : decode cX12_addSimple 215 = .ok (.istore 9, 2) := by decide +kernel
theorem dX12_addSimple_217 : decode cX12_addSimple 217 = .ok (.iinc 2 1, 3) := by decide +kernel
theorem dX12_addSimple_220 : decode cX12_addSimple 220 = .ok (.aload_n 0, 1) := by decide +kernel
theorem dX12_addSimple_221 : decode cX12_addSimple 221 = .ok (.getfield 114, 3) := by decide +kernel
theorem dX12_addSimple_224 : decode cX12_addSimple 224 = .ok (.ifCond .ne 17, 3) := by decide +kernel
theorem dX12_addSimple_227 : decode cX12_addSimple 227 = .ok (.iload 7, 2) := by decide +kernel
theorem dX12_addSimple_229 : decode cX12_addSimple 229 = .ok (.iload 9, 2) := by decide +kernel
theorem dX12_addSimple_231 : decode cX12_addSimple 231 = .ok (.iadd, 1) := by decide +kernel
theorem dX12_addSimple_232 : decode cX12_addSimple 232 = .ok (.iload 5, 2) := by decide +kernel
theorem dX12_addSimple_234 : decode cX12_addSimple 234 = .ok (.if_icmp .ge 7, 3) := by decide +kernel
theorem dX12_addSimple_237 : decode cX12_addSimple 237 = .ok (.iconst 1, 1) := by decide +kernel
theorem dX12_addSimple_238 : decode cX12_addSimple 238 = .ok (.goto 4, 3) := by decide +kernel
theorem dX12_addSimple_241 : decode cX12_addSimple 241 = .ok (.iconst 0, 1) := by decide +kernel
theorem dX12_addSimple_242 : decode cX12_addSimple 242 = .ok (.istore 6, 2) := by decide +kernel
theorem dX12_addSimple_244 : decode cX12_addSimple 244 = .ok (.iload 7, 2) := by decide +kernel
theorem dX12_addSimple_246 : decode cX12_addSimple 246 = .ok (.istore 10, 2) := by decide +kernel
theorem dX12_addSimple_248 : decode cX12_addSimple 248 = .ok (.iload 10, 2) := by decide +kernel
theorem dX12_addSimple_250 : decode cX12_addSimple 250 = .ok (.iload 7, 2) := by decide +kernel
theorem dX12_addSimple_252 : decode cX12_addSimple 252 = .ok (.iload 9, 2) := by decide +kernel
theorem dX12_addSimple_254 : decode cX12_addSimple 254 = .ok (.iadd, 1) := by decide +kernel
theorem dX12_addSimple_255 : decode cX12_addSimple 255 = .ok (.if_icmp .gt 23, 3) := by decide +kernel
theorem dX12_addSimple_258 : decode cX12_addSimple 258 = .ok (.iload 6, 2) := by decide +kernel
theorem dX12_addSimple_260 : decode cX12_addSimple 260 = .ok (.ifCond .eq 18, 3) := by decide +kernel
theorem dX12_addSimple_263 : decode cX12_addSimple 263 = .ok (.aload_n 0, 1) := by decide +kernel
theorem dX12_addSimple_264 : decode cX12_addSimple 264 = .ok (.getfield 51, 3) := by decide +kernel
theorem dX12_addSimple_267 : decode cX12_addSimple 267 = .ok (.iload 10, 2) := by decide +kernel
theorem dX12_addSimple_269 : decode cX12_addSimple 269 = .ok (.iload 8, 2) := by decide +kernel
theorem dX12_addSimple_271 : decode cX12_addSimple 271 = .ok (.iastore, 1) := by decide +kernel
theorem dX12_addSimple_272 : decode cX12_addSimple 272 = .ok (.iinc 10 1, 3) := by decide +kernel
theorem dX12_addSimple_275 : decode cX12_addSimple 275 = .ok (.goto (-27), 3) := by decide +kernel
theorem dX12_addSimple_278 : decode cX12_addSimple 278 = .ok (.iload 7, 2) := by decide +kernel
theorem dX12_addSimple_280 : decode cX12_addSimple 280 = .ok (.iload 9, 2) := by decide +kernel
theorem dX12_addSimple_282 : decode cX12_addSimple 282 = .ok (.iconst 1, 1) := by decide +kernel
theorem dX12_addSimple_283 : decode cX12_addSimple 283 = .ok (.iadd, 1) := by decide +kernel
theorem dX12_addSimple_284 : decode cX12_addSimple 284 = .ok (.iadd, 1) := by decide +kernel
theorem dX12_addSimple_285 : decode cX12_addSimple 285 = .ok (.istore 7, 2) := by decide +kernel
theorem dX12_addSimple_287 : decode cX12_addSimple 287 = .ok (.goto (-112), 3) := by decide +kernel
theorem dX12_addSimple_290 : decode cX12_addSimple 290 = .ok (.iconst 0, 1) := by decide +kernel
theorem dX12_addSimple_291 : decode cX12_addSimple 291 = .ok (.istore 8, 2) := by decide +kernel
theorem dX12_addSimple_293 : decode cX12_addSimple 293 = .ok (.iconst 0, 1) := by decide +kernel
theorem dX12_addSimple_294 : decode cX12_addSimple 294 = .ok (.istore 9, 2) := by decide +kernel
theorem dX12_addSimple_296 : decode cX12_addSimple 296 = .ok (.iload 9, 2) := by decide +kernel
theorem dX12_addSimple_298 : decode cX12_addSimple 298 = .ok (.iload 5, 2) := by decide +kernel
theorem dX12_addSimple_300 : decode cX12_addSimple 300 = .ok (.if_icmp .ge 106, 3) := by decide +kernel
theorem dX12_addSimple_303 : decode cX12_addSimple 303 = .ok (.iload 6, 2) := by decide +kernel
theorem dX12_addSimple_305 : decode cX12_addSimple 305 = .ok (.ifCond .eq 101, 3) := by decide +kernel
theorem dX12_addSimple_308 : decode cX12_addSimple 308 = .ok (.iload_n 2, 1) := by decide +kernel
theorem dX12_addSimple_309 : decode cX12_addSimple 309 = .ok (.aload_n 0, 1) := by decide +kernel
theorem dX12_addSimple_310 : decode cX12_addSimple 310 = .ok (.iload 9, 2) := by decide +kernel
theorem dX12_addSimple_312 : decode cX12_addSimple 312 = .ok (.iload_n 2, 1) := by decide +kernel
theorem dX12_addSimple_313 : decode cX12_addSimple 313 = .ok (.iload 8, 2) := by decide +kernel
theorem dX12_addSimple_315 : decode cX12_addSimple 315 = .ok (.iconst 2, 1) := by decide +kernel
theorem dX12_addSimple_316 : decode cX12_addSimple 316 = .ok (.bipush 16, 2) := by decide +kernel
theorem dX12_addSimple_318 : decode cX12_addSimple 318 = .ok (.invokevirtual 203, 3) := by decide +kernel
theorem dX12_addSimple_321 : decode cX12_addSimple 321 = .ok (.iadd, 1) := by decide +kernel
theorem dX12_addSimple_322 : decode cX12_addSimple 322 = .ok (.istore_n 2, 1) := by decide +kernel
theorem dX12_addSimple_323 : decode cX12_addSimple 323 = .ok (.aload_n 0, 1) := by decide +kernel
theorem dX12_addSimple_324 : decode cX12_addSimple 324 = .ok (.getfield 114, 3) := by decide +kernel
theorem dX12_addSimple_327 : decode cX12_addSimple 327 = .ok (.ifCond .ne 7, 3) := by decide +kernel
theorem dX12_addSimple_330 : decode cX12_addSimple 330 = .ok (.iconst 1, 1) := by decide +kernel
theorem dX12_addSimple_331 : decode cX12_addSimple 331 = .ok (.goto 4, 3) := by decide +kernel
theorem dX12_addSimple_334 : decode cX12_addSimple 334 = .ok (.iconst 0, 1) := by decide +kernel
theorem dX12_addSimple_335 : decode cX12_addSimple 335 = .ok (.istore 6, 2) := by decide +kernel
theorem dX12_addSimple_337 : decode cX12_addSimple 337 = .ok (.iload 6, 2) := by decide +kernel
theorem dX12_addSimple_339 : decode cX12_addSimple 339 = .ok (.ifCond .eq 10, 3) := by decide +kernel
theorem dX12_addSimple_342 : decode cX12_addSimple 342 = .ok (.aload_n 0, 1) := by decide +kernel
theorem dX12_addSimple_343 : decode cX12_addSimple 343 = .ok (.getfield 207, 3) := by decide +kernel
theorem dX12_addSimple_346 : decode cX12_addSimple 346 = .ok (.goto 4, 3) := by decide +kernel
theorem dX12_addSimple_349 : decode cX12_addSimple 349 = .ok (.iconst 0, 1) := by decide +kernel
theorem dX12_addSimple_350 : decode cX12_addSimple 350 = .ok (.istore 8, 2) := by decide +kernel
theorem dX12_addSimple_352 : decode cX12_addSimple 352 = .ok (.iload 6, 2) := by decide +kernel
theorem dX12_addSimple_354 : decode cX12_addSimple 354 = .ok (.ifCond .eq 46, 3) := by decide +kernel
theorem dX12_addSimple_357 : decode cX12_addSimple 357 = .ok (.aload_n 0, 1) := by decide +kernel
theorem dX12_addSimple_358 : decode cX12_addSimple 358 = .ok (.getfield 39, 3) := by decide +kernel
theorem dX12_addSimple_361 : decode cX12_addSimple 361 = .ok (.aload_n 0, 1) := by decide +kernel
theorem dX12_addSimple_362 : decode cX12_addSimple 362 = .ok (.getfield 136, 3) := by decide +kernel
theorem dX12_addSimple_365 : decode cX12_addSimple 365 = .ok (.iload 9, 2) := by decide +kernel
theorem dX12_addSimple_367 : decode cX12_addSimple 367 = .ok (.iadd, 1) := by decide +kernel
theorem dX12_addSimple_368 : decode cX12_addSimple 368 = .ok (.iload 8, 2) := by decide +kernel
theorem dX12_addSimple_370 : decode cX12_addSimple 370 = .ok (.iastore, 1) := by decide +kernel
theorem dX12_addSimple_371 : decode cX12_addSimple 371 = .ok (.aload_n 0, 1) := by decide +kernel
theorem dX12_addSimple_372 : decode cX12_addSimple 372 = .ok (.getfield 45, 3) := by decide +kernel
theorem dX12_addSimple_375 : decode cX12_addSimple 375 = .ok (.aload_n 0, 1) := by decide +kernel
theorem dX12_addSimple_376 : decode cX12_addSimple 376 = .ok (.getfield 136, 3) := by decide +kernel
theorem dX12_addSimple_379 : decode cX12_addSimple 379 = .ok (.iload 9, 2) := by decide +kernel
theorem dX12_addSimple_381 : decode cX12_addSimple 381 = .ok (.iadd, 1) := by decide +kernel
theorem dX12_addSimple_382 : decode cX12_addSimple 382 = .ok (.aload_n 0, 1) := by decide +kernel
theorem dX12_addSimple_383 : decode cX12_addSimple 383 = .ok (.getfield 51, 3) := by decide +kernel
theorem dX12_addSimple_386 : decode cX12_addSimple 386 = .ok (.iload 9, 2) := by decide +kernel
theorem dX12_addSimple_388 : decode cX12_addSimple 388 = .ok (.iaload, 1) := by decide +kernel
theorem dX12_addSimple_389 : decode cX12_addSimple 389 = .ok (.iconst 1, 1) := by decide +kernel
theorem dX12_addSimple_390 : decode cX12_addSimple 390 = .ok (.iand, 1) := by decide +kernel
theorem dX12_addSimple_391 : decode cX12_addSimple 391 = .ok (.ifCond .eq 7, 3) := by decide +kernel
theorem dX12_addSimple_394 : decode cX12_addSimple 394 = .ok (.iconst 1, 1) := by decide +kernel
theorem dX12_addSimple_395 : decode cX12_addSimple 395 = .ok (.goto 4, 3) := by decide +kernel
theorem dX12_addSimple_398 : decode cX12_addSimple 398 = .ok (.iconst 0, 1) := by decide +kernel
theorem dX12_addSimple_399 : decode cX12_addSimple 399 = .ok (.bastore, 1) := by decide +kernel
theorem dX12_addSimple_400 : decode cX12_addSimple 400 = .ok (.iinc 9 1, 3) := by decide +kernel
theorem dX12_addSimple_403 : decode cX12_addSimple 403 = .ok (.goto (-107), 3) := by decide +kernel
theorem dX12_addSimple_406 : decode cX12_addSimple 406 = .ok (.iconst 0, 1) := by decide +kernel
theorem dX12_addSimple_407 : decode cX12_addSimple 407 = .ok (.istore 8, 2) := by decide +kernel
theorem dX12_addSimple_409 : decode cX12_addSimple 409 = .ok (.iconst 0, 1) := by decide +kernel
theorem dX12_addSimple_410 : decode cX12_addSimple 410 = .ok (.istore 9, 2) := by decide +kernel
theorem dX12_addSimple_412 : decode cX12_addSimple 412 = .ok (.iload 9, 2) := by decide +kernel
theorem dX12_addSimple_414 : decode cX12_addSimple 414 = .ok (.iload 5, 2) := by decide +kernel
theorem dX12_addSimple_416 : decode cX12_addSimple 416 = .ok (.if_icmp .ge 77, 3) := by decide +kernel
theorem dX12_addSimple_419 : decode cX12_addSimple 419 = .ok (.iload 6, 2) := by decide +kernel
theorem dX12_addSimple_421 : decode cX12_addSimple 421 = .ok (.ifCond .eq 72, 3) := by decide +kernel
theorem dX12_addSimple_424 : decode cX12_addSimple 424 = .ok (.iload_n 2, 1) := by decide +kernel
theorem dX12_addSimple_425 : decode cX12_addSimple 425 = .ok (.aload_n 0, 1) := by decide +kernel
theorem dX12_addSimple_426 : decode cX12_addSimple 426 = .ok (.iload 9, 2) := by decide +kernel
theorem dX12_addSimple_428 : decode cX12_addSimple 428 = .ok (.iload_n 2, 1) := by decide +kernel
theorem dX12_addSimple_429 : decode cX12_addSimple 429 = .ok (.iload 8, 2) := by decide +kernel
theorem dX12_addSimple_431 : decode cX12_addSimple 431 = .ok (.iconst 4, 1) := by decide +kernel
theorem dX12_addSimple_432 : decode cX12_addSimple 432 = .ok (.bipush 32, 2) := by decide +kernel
theorem dX12_addSimple_434 : decode cX12_addSimple 434 = .ok (.invokevirtual 203, 3) := by decide +kernel
theorem dX12_addSimple_437 : decode cX12_addSimple 437 = .ok (.iadd, 1) := by decide +kernel
theorem dX12_addSimple_438 : decode cX12_addSimple 438 = .ok (.istore_n 2, 1) := by decide +kernel
theorem dX12_addSimple_439 : decode cX12_addSimple 439 = .ok (.aload_n 0, 1) := by decide +kernel
theorem dX12_addSimple_440 : decode cX12_addSimple 440 = .ok (.getfield 114, 3) := by decide +kernel
theorem dX12_addSimple_443 : decode cX12_addSimple 443 = .ok (.ifCond .ne 7, 3) := by decide +kernel
theorem dX12_addSimple_446 : decode cX12_addSimple 446 = .ok (.iconst 1, 1) := by decide +kernel
theorem dX12_addSimple_447 : decode cX12_addSimple 447 = .ok (.goto 4, 3) := by decide +kernel
theorem dX12_addSimple_450 : decode cX12_addSimple 450 = .ok (.iconst 0, 1) := by decide +kernel
theorem dX12_addSimple_451 : decode cX12_addSimple 451 = .ok (.istore 6, 2) := by decide +kernel
theorem dX12_addSimple_453 : decode cX12_addSimple 453 = .ok (.iload 6, 2) := by decide +kernel
theorem dX12_addSimple_455 : decode cX12_addSimple 455 = .ok (.ifCond .eq 10, 3) := by decide +kernel
theorem dX12_addSimple_458 : decode cX12_addSimple 458 = .ok (.aload_n 0, 1) := by decide +kernel
theorem dX12_addSimple_459 : decode cX12_addSimple 459 = .ok (.getfield 207, 3) := by decide +kernel
theorem dX12_addSimple_462 : decode cX12_addSimple 462 = .ok (.goto 4, 3) := by decide +kernel
theorem dX12_addSimple_465 : decode cX12_addSimple 465 = .ok (.iconst 0, 1) := by decide +kernel
theorem dX12_addSimple_466 : decode cX12_addSimple 466 = .ok (.istore 8, 2) := by decide +kernel
theorem dX12_addSimple_468 : decode cX12_addSimple 468 = .ok (.iload 6, 2) := by decide +kernel
theorem dX12_addSimple_470 : decode cX12_addSimple 470 = .ok (.ifCond .eq 17, 3) := by decide +kernel
theorem dX12_addSimple_473 : decode cX12_addSimple 473 = .ok (.aload_n 0, 1) := by decide +kernel
theorem dX12_addSimple_474 : decode cX12_addSimple 474 = .ok (.getfield 42, 3) := by decide +kernel
theorem dX12_addSimple_477 : decode cX12_addSimple 477 = .ok (.aload_n 0, 1) := by decide +kernel
theorem dX12_addSimple_478 : decode cX12_addSimple 478 = .ok (.getfield 136, 3) := by decide +kernel
theorem dX12_addSimple_481 : decode cX12_addSimple 481 = .ok (.iload 9, 2) := by decide +kernel
theorem dX12_addSimple_483 : decode cX12_addSimple 483 = .ok (.iadd, 1) := by decide +kernel
theorem dX12_addSimple_484 : decode cX12_addSimple 484 = .ok (.iload 8, 2) := by decide +kernel
theorem dX12_addSimple_486 : decode cX12_addSimple 486 = .ok (.iastore, 1) := by decide +kernel
theorem dX12_addSimple_487 : decode cX12_addSimple 487 = .ok (.iinc 9 1, 3) := by decide +kernel
theorem dX12_addSimple_490 : decode cX12_addSimple 490 = .ok (.goto (-78), 3) := by decide +kernel
theorem dX12_addSimple_493 : decode cX12_addSimple 493 = .ok (.iload 6, 2) := by decide +kernel
theorem dX12_addSimple_495 : decode cX12_addSimple 495 = .ok (.ifCond .ne 11, 3) := by decide +kernel
theorem dX12_addSimple_498 : decode cX12_addSimple 498 = .ok (.aload_n 0, 1) := by decide +kernel
theorem dX12_addSimple_499 : decode cX12_addSimple 499 = .ok (.iload 4, 2) := by decide +kernel
theorem dX12_addSimple_501 : decode cX12_addSimple 501 = .ok (.putfield 139, 3) := by decide +kernel
theorem dX12_addSimple_504 : decode cX12_addSimple 504 = .ok (.iconst 0, 1) := by decide +kernel
theorem dX12_addSimple_505 : decode cX12_addSimple 505 = .ok (.ireturn, 1) := by decide +kernel
theorem dX12_addSimple_506 : decode cX12_addSimple 506 = .ok (.aload_n 0, 1) := by decide +kernel
theorem dX12_addSimple_507 : decode cX12_addSimple 507 = .ok (.dup, 1) := by decide +kernel
theorem dX12_addSimple_508 : decode cX12_addSimple 508 = .ok (.getfield 136, 3) := by decide +kernel
theorem dX12_addSimple_511 : decode cX12_addSimple 511 = .ok (.iload 5, 2) := by decide +kernel
theorem dX12_addSimple_513 : decode cX12_addSimple 513 = .ok (.iadd, 1) := by decide +kernel
theorem dX12_addSimple_514 : decode cX12_addSimple 514 = .ok (.putfield 136, 3) := by decide +kernel
theorem dX12_addSimple_517 : decode cX12_addSimple 517 = .ok (.iconst 1, 1) := by decide +kernel
theorem dX12_addSimple_518 : decode cX12_addSimple 518 = .ok (.ireturn, 1) := by decide +kernel
theorem dX12_addOne_0 : decode cX12_addOne 0 = .ok (.aload_n 0, 1) := by decide +kernel
theorem dX12_addOne_1 : decode cX12_addOne 1 = .ok (.getfield 51, 3) := by decide +kernel
theorem dX12_addOne_4 : decode cX12_addOne 4 = .ok (.iload_n 1, 1) := by decide +kernel
theorem dX12_addOne_5 : decode cX12_addOne 5 = .ok (.iaload, 1) := by decide +kernel
theorem dX12_addOne_6 : decode cX12_addOne 6 = .ok (.iload 5, 2) := by decide +kernel
theorem dX12_addOne_8 : decode cX12_addOne 8 = .ok (.iand, 1) := by decide +kernel
theorem dX12_addOne_9 : decode cX12_addOne 9 = .ok (.ifCond .eq 7, 3) := by decide +kernel
theorem dX12_addOne_12 : decode cX12_addOne 12 = .ok (.iconst 1, 1) := by decide +kernel
theorem dX12_addOne_13 : decode cX12_addOne 13 = .ok (.goto 4, 3) := by decide +kernel
theorem dX12_addOne_16 : decode cX12_addOne 16 = .ok (.iconst 0, 1) := by decide +kernel
theorem dX12_addOne_17 : decode cX12_addOne 17 = .ok (.istore 6, 2) := by decide +kernel
theorem dX12_addOne_19 : decode cX12_addOne 19 = .ok (.aload_n 0, 1) := by decide +kernel
theorem dX12_addOne_20 : decode cX12_addOne 20 = .ok (.getfield 51, 3) := by decide +kernel
theorem dX12_addOne_23 : decode cX12_addOne 23 = .ok (.iload_n 1, 1) := by decide +kernel
theorem dX12_addOne_24 : decode cX12_addOne 24 = .ok (.iaload, 1) := by decide +kernel
theorem dX12_addOne_25 : decode cX12_addOne 25 = .ok (.iload 4, 2) := by decide +kernel
theorem dX12_addOne_27 : decode cX12_addOne 27 = .ok (.iand, 1) := by decide +kernel
theorem dX12_addOne_28 : decode cX12_addOne 28 = .ok (.ifCond .eq 33, 3) := by decide +kernel
theorem dX12_addOne_31 : decode cX12_addOne 31 = .ok (.aload_n 0, 1) := by decide +kernel
theorem dX12_addOne_32 : decode cX12_addOne 32 = .ok (.iload_n 2, 1) := by decide +kernel
theorem dX12_addOne_33 : decode cX12_addOne 33 = .ok (.iconst 1, 1) := by decide +kernel
theorem dX12_addOne_34 : decode cX12_addOne 34 = .ok (.invokevirtual 199, 3) := by decide +kernel
theorem dX12_addOne_37 : decode cX12_addOne 37 = .ok (.istore 7, 2) := by decide +kernel
theorem dX12_addOne_39 : decode cX12_addOne 39 = .ok (.aload_n 0, 1) := by decide +kernel
theorem dX12_addOne_40 : decode cX12_addOne 40 = .ok (.iload 6, 2) := by decide +kernel
theorem dX12_addOne_42 : decode cX12_addOne 42 = .ok (.ifCond .eq 10, 3) := by decide +kernel
theorem dX12_addOne_45 : decode cX12_addOne 45 = .ok (.iload_n 3, 1) := by decide +kernel
theorem dX12_addOne_46 : decode cX12_addOne 46 = .ok (.iload 7, 2) := by decide +kernel
theorem dX12_addOne_48 : decode cX12_addOne 48 = .ok (.iadd, 1) := by decide +kernel
theorem dX12_addOne_49 : decode cX12_addOne 49 = .ok (.goto 7, 3) := by decide +kernel
theorem dX12_addOne_52 : decode cX12_addOne 52 = .ok (.iload_n 3, 1) := by decide +kernel
theorem dX12_addOne_53 : decode cX12_addOne 53 = .ok (.iload 7, 2) := by decide +kernel
theorem dX12_addOne_55 : decode cX12_addOne 55 = .ok (.isub, 1) := by decide +kernel
theorem dX12_addOne_56 : decode cX12_addOne 56 = .ok (.putfield 207, 3) := by decide +kernel
theorem dX12_addOne_59 : decode cX12_addOne 59 = .ok (.iconst 1, 1) := by decide +kernel
theorem dX12_addOne_60 : decode cX12_addOne 60 = .ok (.ireturn, 1) := by decide +kernel
theorem dX12_addOne_61 : decode cX12_addOne 61 = .ok (.aload_n 0, 1) := by decide +kernel
theorem dX12_addOne_62 : decode cX12_addOne 62 = .ok (.iload 6, 2) := by decide +kernel
theorem dX12_addOne_64 : decode cX12_addOne 64 = .ok (.ifCond .eq 7, 3) := by decide +kernel
theorem dX12_addOne_67 : decode cX12_addOne 67 = .ok (.iload_n 3, 1) := by decide +kernel
theorem dX12_addOne_68 : decode cX12_addOne 68 = .ok (.goto 14, 3) := by decide +kernel
theorem dX12_addOne_71 : decode cX12_addOne 71 = .ok (.iload_n 3, 1) := by decide +kernel
theorem dX12_addOne_72 : decode cX12_addOne 72 = .ok (.aload_n 0, 1) := by decide +kernel
theorem dX12_addOne_73 : decode cX12_addOne 73 = .ok (.iload_n 2, 1) := by decide +kernel
theorem dX12_addOne_74 : decode cX12_addOne 74 = .ok (.iconst 2, 1) := by decide +kernel
theorem dX12_addOne_75 : decode cX12_addOne 75 = .ok (.invokevirtual 199, 3) := by decide +kernel
theorem dX12_addOne_78 : decode cX12_addOne 78 = .ok (.invokestatic 210, 3) := by decide +kernel
theorem dX12_addOne_81 : decode cX12_addOne 81 = .ok (.iadd, 1) := by decide +kernel
theorem dX12_addOne_82 : decode cX12_addOne 82 = .ok (.putfield 207, 3) := by decide +kernel
theorem dX12_addOne_85 : decode cX12_addOne 85 = .ok (.iload 6, 2) := by decide +kernel
theorem dX12_addOne_87 : decode cX12_addOne 87 = .ok (.ifCond .eq 7, 3) := by decide +kernel
theorem dX12_addOne_90 : decode cX12_addOne 90 = .ok (.iconst 0, 1) := by decide +kernel
theorem dX12_addOne_91 : decode cX12_addOne 91 = .ok (.goto 4, 3) := by decide +kernel
theorem dX12_addOne_94 : decode cX12_addOne 94 = .ok (.iconst 2, 1) := by decide +kernel
theorem dX12_addOne_95 : decode cX12_addOne 95 = .ok (.ireturn, 1) := by decide +kernel
theorem dX12_isOpen_0 : decode cX12_isOpen 0 = .ok (.iconst 0, 1) := by decide +kernel
theorem dX12_isOpen_1 : decode cX12_isOpen 1 = .ok (.istore_n 2, 1) := by decide +kernel
theorem dX12_isOpen_2 : decode cX12_isOpen 2 = .ok (.iconst 0, 1) := by decide +kernel
theorem dX12_isOpen_3 : decode cX12_isOpen 3 = .ok (.istore_n 3, 1) := by decide +kernel
theorem dX12_isOpen_4 : decode cX12_isOpen 4 = .ok (.iload_n 3, 1) := by decide +kernel
theorem dX12_isOpen_5 : decode cX12_isOpen 5 = .ok (.aload_n 0, 1) := by decide +kernel
theorem dX12_isOpen_6 : decode cX12_isOpen 6 = .ok (.getfield 213, 3) := by decide +kernel
theorem dX12_isOpen_9 : decode cX12_isOpen 9 = .ok (.if_icmp .ge 29, 3) := by decide +kernel
theorem dX12_isOpen_12 : decode cX12_isOpen 12 = .ok (.iload_n 2, 1) := by decide +kernel
theorem dX12_isOpen_13 : decode cX12_isOpen 13 = .ok (.ifCond .ne 13, 3) := by decide +kernel
theorem dX12_isOpen_16 : decode cX12_isOpen 16 = .ok (.aload_n 0, 1) := by decide +kernel
theorem dX12_isOpen_17 : decode cX12_isOpen 17 = .ok (.getfield 54, 3) := by decide +kernel
theorem dX12_isOpen_20 : decode cX12_isOpen 20 = .ok (.iload_n 3, 1) := by decide +kernel
theorem dX12_isOpen_21 : decode cX12_isOpen 21 = .ok (.iaload, 1) := by decide +kernel
theorem dX12_isOpen_22 : decode cX12_isOpen 22 = .ok (.iload_n 1, 1) := by decide +kernel
theorem dX12_isOpen_23 : decode cX12_isOpen 23 = .ok (.if_icmp .ne 7, 3) := by decide +kernel
theorem dX12_isOpen_26 : decode cX12_isOpen 26 = .ok (.iconst 1, 1) := by decide +kernel
theorem dX12_isOpen_27 : decode cX12_isOpen 27 = .ok (.goto 4, 3) := by decide +kernel
theorem dX12_isOpen_30 : decode cX12_isOpen 30 = .ok (.iconst 0, 1) := by decide +kernel
theorem dX12_isOpen_31 : decode cX12_isOpen 31 = .ok (.istore_n 2, 1) := by decide +kernel
theorem dX12_isOpen_32 : decode cX12_isOpen 32 = .ok (.iinc 3 1, 3) := by decide +kernel
theorem dX12_isOpen_35 : decode cX12_isOpen 35 = .ok (.goto (-31), 3) := by decide +kernel
theorem dX12_isOpen_38 : decode cX12_isOpen 38 = .ok (.iload_n 2, 1) := by decide +kernel
theorem dX12_isOpen_39 : decode cX12_isOpen 39 = .ok (.ireturn, 1) := by decide +kernel
theorem dX12_enter_0 : decode cX12_enter 0 = .ok (.aload_n 0, 1) := by decide +kernel
theorem dX12_enter_1 : decode cX12_enter 1 = .ok (.iload_n 1, 1) := by decide +kernel
theorem dX12_enter_2 : decode cX12_enter 2 = .ok (.invokevirtual 216, 3) := by decide +kernel
theorem dX12_enter_5 : decode cX12_enter 5 = .ok (.istore_n 2, 1) := by decide +kernel
theorem dX12_enter_6 : decode cX12_enter 6 = .ok (.iload_n 2, 1) := by decide +kernel
theorem dX12_enter_7 : decode cX12_enter 7 = .ok (.ifCond .eq 12, 3) := by decide +kernel
theorem dX12_enter_10 : decode cX12_enter 10 = .ok (.aload_n 0, 1) := by decide +kernel
theorem dX12_enter_11 : decode cX12_enter 11 = .ok (.getfield 186, 3) := by decide +kernel
theorem dX12_enter_14 : decode cX12_enter 14 = .ok (.ifCond .eq 5, 3) := by decide +kernel
theorem dX12_enter_17 : decode cX12_enter 17 = .ok (.iconst 0, 1) := by decide +kernel
theorem dX12_enter_18 : decode cX12_enter 18 = .ok (.ireturn, 1) := by decide +kernel
theorem dX12_enter_19 : decode cX12_enter 19 = .ok (.iload_n 2, 1) := by decide +kernel
theorem dX12_enter_20 : decode cX12_enter 20 = .ok (.ifCond .eq 15, 3) := by decide +kernel
theorem dX12_enter_23 : decode cX12_enter 23 = .ok (.aload_n 0, 1) := by decide +kernel
theorem dX12_enter_24 : decode cX12_enter 24 = .ok (.iconst 0, 1) := by decide +kernel
theorem dX12_enter_25 : decode cX12_enter 25 = .ok (.iconst 2, 1) := by decide +kernel
theorem dX12_enter_26 : decode cX12_enter 26 = .ok (.invokevirtual 199, 3) := by decide +kernel
theorem dX12_enter_29 : decode cX12_enter 29 = .ok (.invokestatic 210, 3) := by decide +kernel
theorem dX12_enter_32 : decode cX12_enter 32 = .ok (.goto 4, 3) := by decide +kernel
theorem dX12_enter_35 : decode cX12_enter 35 = .ok (.iconst 0, 1) := by decide +kernel
theorem dX12_enter_36 : decode cX12_enter 36 = .ok (.istore_n 3, 1) := by decide +kernel
theorem dX12_enter_37 : decode cX12_enter 37 = .ok (.iload_n 2, 1) := by decide +kernel
theorem dX12_enter_38 : decode cX12_enter 38 = .ok (.ifCond .eq 14, 3) := by decide +kernel
theorem dX12_enter_41 : decode cX12_enter 41 = .ok (.aload_n 0, 1) := by decide +kernel
theorem dX12_enter_42 : decode cX12_enter 42 = .ok (.getfield 114, 3) := by decide +kernel
theorem dX12_enter_45 : decode cX12_enter 45 = .ok (.ifCond .ne 7, 3) := by decide +kernel
theorem dX12_enter_48 : decode cX12_enter 48 = .ok (.iconst 1, 1) := by decide +kernel
theorem dX12_enter_49 : decode cX12_enter 49 = .ok (.goto 4, 3) := by decide +kernel
theorem dX12_enter_52 : decode cX12_enter 52 = .ok (.iconst 0, 1) := by decide +kernel
theorem dX12_enter_53 : decode cX12_enter 53 = .ok (.istore_n 2, 1) := by decide +kernel
theorem dX12_enter_54 : decode cX12_enter 54 = .ok (.iload_n 2, 1) := by decide +kernel
theorem dX12_enter_55 : decode cX12_enter 55 = .ok (.ifCond .eq 76, 3) := by decide +kernel
theorem dX12_enter_58 : decode cX12_enter 58 = .ok (.iload_n 3, 1) := by decide +kernel
theorem dX12_enter_59 : decode cX12_enter 59 = .ok (.ifCond .ge 72, 3) := by decide +kernel
theorem dX12_enter_62 : decode cX12_enter 62 = .ok (.aload_n 0, 1) := by decide +kernel
theorem dX12_enter_63 : decode cX12_enter 63 = .ok (.getfield 54, 3) := by decide +kernel
theorem dX12_enter_66 : decode cX12_enter 66 = .ok (.aload_n 0, 1) := by decide +kernel
theorem dX12_enter_67 : decode cX12_enter 67 = .ok (.getfield 213, 3) := by decide +kernel
theorem dX12_enter_70 : decode cX12_enter 70 = .ok (.iload_n 1, 1) := by decide +kernel
theorem dX12_enter_71 : decode cX12_enter 71 = .ok (.iastore, 1) := by decide +kernel
theorem dX12_enter_72 : decode cX12_enter 72 = .ok (.aload_n 0, 1) := by decide +kernel
theorem dX12_enter_73 : decode cX12_enter 73 = .ok (.getfield 57, 3) := by decide +kernel
theorem dX12_enter_76 : decode cX12_enter 76 = .ok (.aload_n 0, 1) := by decide +kernel
theorem dX12_enter_77 : decode cX12_enter 77 = .ok (.getfield 213, 3) := by decide +kernel
theorem dX12_enter_80 : decode cX12_enter 80 = .ok (.bipush 10, 2) := by decide +kernel
theorem dX12_enter_82 : decode cX12_enter 82 = .ok (.iastore, 1) := by decide +kernel
theorem dX12_enter_83 : decode cX12_enter 83 = .ok (.aload_n 0, 1) := by decide +kernel
theorem dX12_enter_84 : decode cX12_enter 84 = .ok (.getfield 60, 3) := by decide +kernel
theorem dX12_enter_87 : decode cX12_enter 87 = .ok (.aload_n 0, 1) := by decide +kernel
theorem dX12_enter_88 : decode cX12_enter 88 = .ok (.getfield 213, 3) := by decide +kernel
theorem dX12_enter_91 : decode cX12_enter 91 = .ok (.aload_n 0, 1) := by decide +kernel
theorem dX12_enter_92 : decode cX12_enter 92 = .ok (.getfield 136, 3) := by decide +kernel
theorem dX12_enter_95 : decode cX12_enter 95 = .ok (.iastore, 1) := by decide +kernel
theorem dX12_enter_96 : decode cX12_enter 96 = .ok (.aload_n 0, 1) := by decide +kernel
theorem dX12_enter_97 : decode cX12_enter 97 = .ok (.getfield 63, 3) := by decide +kernel
theorem dX12_enter_100 : decode cX12_enter 100 = .ok (.aload_n 0, 1) := by decide +kernel
theorem dX12_enter_101 : decode cX12_enter 101 = .ok (.getfield 213, 3) := by decide +kernel
theorem dX12_enter_104 : decode cX12_enter 104 = .ok (.aload_n 0, 1) := by decide +kernel
theorem dX12_enter_105 : decode cX12_enter 105 = .ok (.getfield 139, 3) := by decide +kernel
theorem dX12_enter_108 : decode cX12_enter 108 = .ok (.iastore, 1) := by decide +kernel
theorem dX12_enter_109 : decode cX12_enter 109 = .ok (.aload_n 0, 1) := by decide +kernel
theorem dX12_enter_110 : decode cX12_enter 110 = .ok (.getfield 66, 3) := by decide +kernel
theorem dX12_enter_113 : decode cX12_enter 113 = .ok (.aload_n 0, 1) := by decide +kernel
theorem dX12_enter_114 : decode cX12_enter 114 = .ok (.getfield 213, 3) := by decide +kernel
theorem dX12_enter_117 : decode cX12_enter 117 = .ok (.iconst 1, 1) := by decide +kernel
theorem dX12_enter_118 : decode cX12_enter 118 = .ok (.bastore, 1) := by decide +kernel
theorem dX12_enter_119 : decode cX12_enter 119 = .ok (.aload_n 0, 1) := by decide +kernel
theorem dX12_enter_120 : decode cX12_enter 120 = .ok (.dup, 1) := by decide +kernel
theorem dX12_enter_121 : decode cX12_enter 121 = .ok (.getfield 213, 3) := by decide +kernel
theorem dX12_enter_124 : decode cX12_enter 124 = .ok (.iconst 1, 1) := by decide +kernel
theorem dX12_enter_125 : decode cX12_enter 125 = .ok (.iadd, 1) := by decide +kernel
theorem dX12_enter_126 : decode cX12_enter 126 = .ok (.putfield 213, 3) := by decide +kernel
theorem dX12_enter_129 : decode cX12_enter 129 = .ok (.iconst 1, 1) := by decide +kernel
theorem dX12_enter_130 : decode cX12_enter 130 = .ok (.ireturn, 1) := by decide +kernel
theorem dX12_enter_131 : decode cX12_enter 131 = .ok (.iload_n 2, 1) := by decide +kernel
theorem dX12_enter_132 : decode cX12_enter 132 = .ok (.ifCond .eq 11, 3) := by decide +kernel
theorem dX12_enter_135 : decode cX12_enter 135 = .ok (.aload_n 0, 1) := by decide +kernel
theorem dX12_enter_136 : decode cX12_enter 136 = .ok (.iload_n 3, 1) := by decide +kernel
theorem dX12_enter_137 : decode cX12_enter 137 = .ok (.invokevirtual 220, 3) := by decide +kernel
theorem dX12_enter_140 : decode cX12_enter 140 = .ok (.ifCond .ne 9, 3) := by decide +kernel
theorem dX12_enter_143 : decode cX12_enter 143 = .ok (.aload_n 0, 1) := by decide +kernel
theorem dX12_enter_144 : decode cX12_enter 144 = .ok (.iconst 1, 1) := by decide +kernel
theorem dX12_enter_145 : decode cX12_enter 145 = .ok (.iload_n 1, 1) := by decide +kernel
theorem dX12_enter_146 : decode cX12_enter 146 = .ok (.invokevirtual 159, 3) := by decide +kernel
theorem dX12_enter_149 : decode cX12_enter 149 = .ok (.iconst 0, 1) := by decide +kernel
theorem dX12_enter_150 : decode cX12_enter 150 = .ok (.ireturn, 1) := by decide +kernel
theorem dX12_argument_0 : decode cX12_argument 0 = .ok (.iload_n 2, 1) := by decide +kernel
theorem dX12_argument_1 : decode cX12_argument 1 = .ok (.iconst 1, 1) := by decide +kernel
theorem dX12_argument_2 : decode cX12_argument 2 = .ok (.iand, 1) := by decide +kernel
theorem dX12_argument_3 : decode cX12_argument 3 = .ok (.ifCond .eq 12, 3) := by decide +kernel
theorem dX12_argument_6 : decode cX12_argument 6 = .ok (.aload_n 0, 1) := by decide +kernel
theorem dX12_argument_7 : decode cX12_argument 7 = .ok (.iload_n 1, 1) := by decide +kernel
theorem dX12_argument_8 : decode cX12_argument 8 = .ok (.iconst 2, 1) := by decide +kernel
theorem dX12_argument_9 : decode cX12_argument 9 = .ok (.invokevirtual 199, 3) := by decide +kernel
theorem dX12_argument_12 : decode cX12_argument 12 = .ok (.goto 9, 3) := by decide +kernel
theorem dX12_argument_15 : decode cX12_argument 15 = .ok (.aload_n 0, 1) := by decide +kernel
theorem dX12_argument_16 : decode cX12_argument 16 = .ok (.iload_n 1, 1) := by decide +kernel
theorem dX12_argument_17 : decode cX12_argument 17 = .ok (.iconst 1, 1) := by decide +kernel
theorem dX12_argument_18 : decode cX12_argument 18 = .ok (.invokevirtual 199, 3) := by decide +kernel
theorem dX12_argument_21 : decode cX12_argument 21 = .ok (.istore_n 3, 1) := by decide +kernel
theorem dX12_argument_22 : decode cX12_argument 22 = .ok (.iload_n 2, 1) := by decide +kernel
theorem dX12_argument_23 : decode cX12_argument 23 = .ok (.iconst 1, 1) := by decide +kernel
theorem dX12_argument_24 : decode cX12_argument 24 = .ok (.iand, 1) := by decide +kernel
theorem dX12_argument_25 : decode cX12_argument 25 = .ok (.ifCond .eq 18, 3) := by decide +kernel
theorem dX12_argument_28 : decode cX12_argument 28 = .ok (.iload_n 3, 1) := by decide +kernel
theorem dX12_argument_29 : decode cX12_argument 29 = .ok (.sipush 32767, 3) := by decide +kernel
theorem dX12_argument_32 : decode cX12_argument 32 = .ok (.if_icmp .le 7, 3) := by decide +kernel
theorem dX12_argument_35 : decode cX12_argument 35 = .ok (.iconst 1, 1) := by decide +kernel
theorem dX12_argument_36 : decode cX12_argument 36 = .ok (.goto 18, 3) := by decide +kernel
theorem dX12_argument_39 : decode cX12_argument 39 = .ok (.iconst 0, 1) := by decide +kernel
theorem dX12_argument_40 : decode cX12_argument 40 = .ok (.goto 14, 3) := by decide +kernel
theorem dX12_argument_43 : decode cX12_argument 43 = .ok (.iload_n 3, 1) := by decide +kernel
theorem dX12_argument_44 : decode cX12_argument 44 = .ok (.bipush 127, 2) := by decide +kernel
theorem dX12_argument_46 : decode cX12_argument 46 = .ok (.if_icmp .le 7, 3) := by decide +kernel
theorem dX12_argument_49 : decode cX12_argument 49 = .ok (.iconst 1, 1) := by decide +kernel
theorem dX12_argument_50 : decode cX12_argument 50 = .ok (.goto 4, 3) := by decide +kernel
theorem dX12_argument_53 : decode cX12_argument 53 = .ok (.iconst 0, 1) := by decide +kernel
theorem dX12_argument_54 : decode cX12_argument 54 = .ok (.istore 4, 2) := by decide +kernel
theorem dX12_argument_56 : decode cX12_argument 56 = .ok (.iload_n 2, 1) := by decide +kernel
theorem dX12_argument_57 : decode cX12_argument 57 = .ok (.iconst 2, 1) := by decide +kernel
theorem dX12_argument_58 : decode cX12_argument 58 = .ok (.iand, 1) := by decide +kernel
theorem dX12_argument_59 : decode cX12_argument 59 = .ok (.ifCond .eq 27, 3) := by decide +kernel
theorem dX12_argument_62 : decode cX12_argument 62 = .ok (.iload 4, 2) := by decide +kernel
theorem dX12_argument_64 : decode cX12_argument 64 = .ok (.ifCond .eq 22, 3) := by decide +kernel
theorem dX12_argument_67 : decode cX12_argument 67 = .ok (.iload_n 3, 1) := by decide +kernel
theorem dX12_argument_68 : decode cX12_argument 68 = .ok (.iload_n 2, 1) := by decide +kernel
theorem dX12_argument_69 : decode cX12_argument 69 = .ok (.iconst 1, 1) := by decide +kernel
theorem dX12_argument_70 : decode cX12_argument 70 = .ok (.iand, 1) := by decide +kernel
theorem dX12_argument_71 : decode cX12_argument 71 = .ok (.ifCond .eq 8, 3) := by decide +kernel
theorem dX12_argument_74 : decode cX12_argument 74 = .ok (.ldc 124, 2) := by decide +kernel
theorem dX12_argument_76 : decode cX12_argument 76 = .ok (.goto 6, 3) := by decide +kernel
theorem dX12_argument_79 : decode cX12_argument 79 = .ok (.sipush 256, 3) := by decide +kernel
theorem dX12_argument_82 : decode cX12_argument 82 = .ok (.isub, 1) := by decide +kernel
theorem dX12_argument_83 : decode cX12_argument 83 = .ok (.goto 4, 3) := by decide +kernel
theorem dX12_argument_86 : decode cX12_argument 86 = .ok (.iload_n 3, 1) := by decide +kernel
theorem dX12_argument_87 : decode cX12_argument 87 = .ok (.ireturn, 1) := by decide +kernel
theorem dX12_readPart_0 : decode cX12_readPart 0 = .ok (.iload_n 2, 1) := by decide +kernel
theorem dX12_readPart_1 : decode cX12_readPart 1 = .ok (.istore_n 3, 1) := by decide +kernel
theorem dX12_readPart_2 : decode cX12_readPart 2 = .ok (.aload_n 0, 1) := by decide +kernel
theorem dX12_readPart_3 : decode cX12_readPart 3 = .ok (.iload_n 3, 1) := by decide +kernel
theorem dX12_readPart_4 : decode cX12_readPart 4 = .ok (.iconst 2, 1) := by decide +kernel
theorem dX12_readPart_5 : decode cX12_readPart 5 = .ok (.invokevirtual 199, 3) := by decide +kernel
theorem dX12_readPart_8 : decode cX12_readPart 8 = .ok (.istore 4, 2) := by decide +kernel
theorem dX12_readPart_10 : decode cX12_readPart 10 = .ok (.aload_n 0, 1) := by decide +kernel
theorem dX12_readPart_11 : decode cX12_readPart 11 = .ok (.getfield 69, 3) := by decide +kernel
theorem dX12_readPart_14 : decode cX12_readPart 14 = .ok (.iload_n 1, 1) := by decide +kernel
theorem dX12_readPart_15 : decode cX12_readPart 15 = .ok (.aload_n 0, 1) := by decide +kernel
theorem dX12_readPart_16 : decode cX12_readPart 16 = .ok (.iload_n 3, 1) := by decide +kernel
theorem dX12_readPart_17 : decode cX12_readPart 17 = .ok (.iconst 2, 1) := by decide +kernel
theorem dX12_readPart_18 : decode cX12_readPart 18 = .ok (.iadd, 1) := by decide +kernel
theorem dX12_readPart_19 : decode cX12_readPart 19 = .ok (.iconst 2, 1) := by decide +kernel
theorem dX12_readPart_20 : decode cX12_readPart 20 = .ok (.invokevirtual 199, 3) := by decide +kernel
theorem dX12_readPart_23 : decode cX12_readPart 23 = .ok (.iastore, 1) := by decide +kernel
theorem dX12_readPart_24 : decode cX12_readPart 24 = .ok (.iinc 3 4, 3) := by decide +kernel
theorem dX12_readPart_27 : decode cX12_readPart 27 = .ok (.iload 4, 2) := by decide +kernel
theorem dX12_readPart_29 : decode cX12_readPart 29 = .ok (.iconst 1, 1) := by decide +kernel
theorem dX12_readPart_30 : decode cX12_readPart 30 = .ok (.iand, 1) := by decide +kernel
theorem dX12_readPart_31 : decode cX12_readPart 31 = .ok (.ifCond .eq 7, 3) := by decide +kernel
theorem dX12_readPart_34 : decode cX12_readPart 34 = .ok (.iconst 2, 1) := by decide +kernel
theorem dX12_readPart_35 : decode cX12_readPart 35 = .ok (.goto 4, 3) := by decide +kernel
theorem dX12_readPart_38 : decode cX12_readPart 38 = .ok (.iconst 1, 1) := by decide +kernel
theorem dX12_readPart_39 : decode cX12_readPart 39 = .ok (.istore 5, 2) := by decide +kernel
theorem dX12_readPart_41 : decode cX12_readPart 41 = .ok (.aload_n 0, 1) := by decide +kernel
theorem dX12_readPart_42 : decode cX12_readPart 42 = .ok (.getfield 75, 3) := by decide +kernel
theorem dX12_readPart_45 : decode cX12_readPart 45 = .ok (.iload_n 1, 1) := by decide +kernel
theorem dX12_readPart_46 : decode cX12_readPart 46 = .ok (.iload 4, 2) := by decide +kernel
theorem dX12_readPart_48 : decode cX12_readPart 48 = .ok (.iastore, 1) := by decide +kernel
theorem dX12_readPart_49 : decode cX12_readPart 49 = .ok (.aload_n 0, 1) := by decide +kernel
theorem dX12_readPart_50 : decode cX12_readPart 50 = .ok (.getfield 78, 3) := by decide +kernel
theorem dX12_readPart_53 : decode cX12_readPart 53 = .ok (.iload_n 1, 1) := by decide +kernel
theorem dX12_readPart_54 : decode cX12_readPart 54 = .ok (.aload_n 0, 1) := by decide +kernel
theorem dX12_readPart_55 : decode cX12_readPart 55 = .ok (.iload_n 3, 1) := by decide +kernel
theorem dX12_readPart_56 : decode cX12_readPart 56 = .ok (.iload 4, 2) := by decide +kernel
theorem dX12_readPart_58 : decode cX12_readPart 58 = .ok (.invokevirtual 223, 3) := by decide +kernel
theorem dX12_readPart_61 : decode cX12_readPart 61 = .ok (.iastore, 1) := by decide +kernel
theorem dX12_readPart_62 : decode cX12_readPart 62 = .ok (.aload_n 0, 1) := by decide +kernel
theorem dX12_readPart_63 : decode cX12_readPart 63 = .ok (.getfield 81, 3) := by decide +kernel
theorem dX12_readPart_66 : decode cX12_readPart 66 = .ok (.iload_n 1, 1) := by decide +kernel
theorem dX12_readPart_67 : decode cX12_readPart 67 = .ok (.aload_n 0, 1) := by decide +kernel
theorem dX12_readPart_68 : decode cX12_readPart 68 = .ok (.iload_n 3, 1) := by decide +kernel
theorem dX12_readPart_69 : decode cX12_readPart 69 = .ok (.iload 5, 2) := by decide +kernel
theorem dX12_readPart_71 : decode cX12_readPart 71 = .ok (.iadd, 1) := by decide +kernel
theorem dX12_readPart_72 : decode cX12_readPart 72 = .ok (.iload 4, 2) := by decide +kernel
theorem dX12_readPart_74 : decode cX12_readPart 74 = .ok (.invokevirtual 223, 3) := by decide +kernel
theorem dX12_readPart_77 : decode cX12_readPart 77 = .ok (.iastore, 1) := by decide +kernel
theorem dX12_readPart_78 : decode cX12_readPart 78 = .ok (.iload_n 3, 1) := by decide +kernel
theorem dX12_readPart_79 : decode cX12_readPart 79 = .ok (.iconst 2, 1) := by decide +kernel
theorem dX12_readPart_80 : decode cX12_readPart 80 = .ok (.iload 5, 2) := by decide +kernel
theorem dX12_readPart_82 : decode cX12_readPart 82 = .ok (.imul, 1) := by decide +kernel
theorem dX12_readPart_83 : decode cX12_readPart 83 = .ok (.iadd, 1) := by decide +kernel
theorem dX12_readPart_84 : decode cX12_readPart 84 = .ok (.istore_n 3, 1) := by decide +kernel
theorem dX12_readPart_85 : decode cX12_readPart 85 = .ok (.aload_n 0, 1) := by decide +kernel
theorem dX12_readPart_86 : decode cX12_readPart 86 = .ok (.getfield 84, 3) := by decide +kernel
theorem dX12_readPart_89 : decode cX12_readPart 89 = .ok (.iconst 4, 1) := by decide +kernel
theorem dX12_readPart_90 : decode cX12_readPart 90 = .ok (.iload_n 1, 1) := by decide +kernel
theorem dX12_readPart_91 : decode cX12_readPart 91 = .ok (.imul, 1) := by decide +kernel
theorem dX12_readPart_92 : decode cX12_readPart 92 = .ok (.sipush 16384, 3) := by decide +kernel
theorem dX12_readPart_95 : decode cX12_readPart 95 = .ok (.iastore, 1) := by decide +kernel
theorem dX12_readPart_96 : decode cX12_readPart 96 = .ok (.aload_n 0, 1) := by decide +kernel
theorem dX12_readPart_97 : decode cX12_readPart 97 = .ok (.getfield 84, 3) := by decide +kernel
theorem dX12_readPart_100 : decode cX12_readPart 100 = .ok (.iconst 4, 1) := by decide +kernel
theorem dX12_readPart_101 : decode cX12_readPart 101 = .ok (.iload_n 1, 1) := by decide +kernel
theorem dX12_readPart_102 : decode cX12_readPart 102 = .ok (.imul, 1) := by decide +kernel
theorem dX12_readPart_103 : decode cX12_readPart 103 = .ok (.iconst 1, 1) := by decide +kernel
theorem dX12_readPart_104 : decode cX12_readPart 104 = .ok (.iadd, 1) := by decide +kernel
theorem dX12_readPart_105 : decode cX12_readPart 105 = .ok (.iconst 0, 1) := by decide +kernel
theorem dX12_readPart_106 : decode cX12_readPart 106 = .ok (.iastore, 1) := by decide +kernel
theorem dX12_readPart_107 : decode cX12_readPart 107 = .ok (.aload_n 0, 1) := by decide +kernel
theorem dX12_readPart_108 : decode cX12_readPart 108 = .ok (.getfield 84, 3) := by decide +kernel
theorem dX12_readPart_111 : decode cX12_readPart 111 = .ok (.iconst 4, 1) := by decide +kernel
theorem dX12_readPart_112 : decode cX12_readPart 112 = .ok (.iload_n 1, 1) := by decide +kernel
theorem dX12_readPart_113 : decode cX12_readPart 113 = .ok (.imul, 1) := by decide +kernel
theorem dX12_readPart_114 : decode cX12_readPart 114 = .ok (.iconst 2, 1) := by decide +kernel
theorem dX12_readPart_115 : decode cX12_readPart 115 = .ok (.iadd, 1) := by decide +kernel
theorem dX12_readPart_116 : decode cX12_readPart 116 = .ok (.iconst 0, 1) := by decide +kernel
theorem dX12_readPart_117 : decode cX12_readPart 117 = .ok (.iastore, 1) := by decide +kernel
theorem dX12_readPart_118 : decode cX12_readPart 118 = .ok (.aload_n 0, 1) := by decide +kernel
theorem dX12_readPart_119 : decode cX12_readPart 119 = .ok (.getfield 84, 3) := by decide +kernel
theorem dX12_readPart_122 : decode cX12_readPart 122 = .ok (.iconst 4, 1) := by decide +kernel
theorem dX12_readPart_123 : decode cX12_readPart 123 = .ok (.iload_n 1, 1) := by decide +kernel
theorem dX12_readPart_124 : decode cX12_readPart 124 = .ok (.imul, 1) := by decide +kernel
theorem dX12_readPart_125 : decode cX12_readPart 125 = .ok (.iconst 3, 1) := by decide +kernel
theorem dX12_readPart_126 : decode cX12_readPart 126 = .ok (.iadd, 1) := by decide +kernel
theorem dX12_readPart_127 : decode cX12_readPart 127 = .ok (.sipush 16384, 3) := by decide +kernel
theorem dX12_readPart_130 : decode cX12_readPart 130 = .ok (.iastore, 1) := by decide +kernel
theorem dX12_readPart_131 : decode cX12_readPart 131 = .ok (.iload 4, 2) := by decide +kernel
theorem dX12_readPart_133 : decode cX12_readPart 133 = .ok (.bipush 8, 2) := by decide +kernel
theorem dX12_readPart_135 : decode cX12_readPart 135 = .ok (.iand, 1) := by decide +kernel
theorem dX12_readPart_136 : decode cX12_readPart 136 = .ok (.ifCond .eq 44, 3) := by decide +kernel
theorem dX12_readPart_139 : decode cX12_readPart 139 = .ok (.aload_n 0, 1) := by decide +kernel
theorem dX12_readPart_140 : decode cX12_readPart 140 = .ok (.getfield 84, 3) := by decide +kernel
theorem dX12_readPart_143 : decode cX12_readPart 143 = .ok (.iconst 4, 1) := by decide +kernel
theorem dX12_readPart_144 : decode cX12_readPart 144 = .ok (.iload_n 1, 1) := by decide +kernel
theorem dX12_readPart_145 : decode cX12_readPart 145 = .ok (.imul, 1) := by decide +kernel
theorem dX12_readPart_146 : decode cX12_readPart 146 = .ok (.aload_n 0, 1) := by decide +kernel
theorem dX12_readPart_147 : decode cX12_readPart 147 = .ok (.iload_n 3, 1) := by decide +kernel
theorem dX12_readPart_148 : decode cX12_readPart 148 = .ok (.iconst 2, 1) := by decide +kernel
theorem dX12_readPart_149 : decode cX12_readPart 149 = .ok (.invokevirtual 199, 3) := by decide +kernel
theorem dX12_readPart_152 : decode cX12_readPart 152 = .ok (.invokestatic 210, 3) := by decide +kernel
theorem dX12_readPart_155 : decode cX12_readPart 155 = .ok (.iastore, 1) := by decide +kernel
theorem dX12_readPart_156 : decode cX12_readPart 156 = .ok (.aload_n 0, 1) := by decide +kernel
theorem dX12_readPart_157 : decode cX12_readPart 157 = .ok (.getfield 84, 3) := by decide +kernel
theorem dX12_readPart_160 : decode cX12_readPart 160 = .ok (.iconst 4, 1) := by decide +kernel
theorem dX12_readPart_161 : decode cX12_readPart 161 = .ok (.iload_n 1, 1) := by decide +kernel
theorem dX12_readPart_162 : decode cX12_readPart 162 = .ok (.imul, 1) := by decide +kernel
theorem dX12_readPart_163 : decode cX12_readPart 163 = .ok (.iconst 3, 1) := by decide +kernel
theorem dX12_readPart_164 : decode cX12_readPart 164 = .ok (.iadd, 1) := by decide +kernel
theorem dX12_readPart_165 : decode cX12_readPart 165 = .ok (.aload_n 0, 1) := by decide +kernel
theorem dX12_readPart_166 : decode cX12_readPart 166 = .ok (.getfield 84, 3) := by decide +kernel
theorem dX12_readPart_169 : decode cX12_readPart 169 = .ok (.iconst 4, 1) := by decide +kernel
theorem dX12_readPart_170 : decode cX12_readPart 170 = .ok (.iload_n 1, 1) := by decide +kernel
theorem dX12_readPart_171 : decode cX12_readPart 171 = .ok (.imul, 1) := by decide +kernel
theorem dX12_readPart_172 : decode cX12_readPart 172 = .ok (.iaload, 1) := by decide +kernel
theorem dX12_readPart_173 : decode cX12_readPart 173 = .ok (.iastore, 1) := by decide +kernel
theorem dX12_readPart_174 : decode cX12_readPart 174 = .ok (.iinc 3 2, 3) := by decide +kernel
theorem dX12_readPart_177 : decode cX12_readPart 177 = .ok (.goto 107, 3) := by decide +kernel
theorem dX12_readPart_180 : decode cX12_readPart 180 = .ok (.iload 4, 2) := by decide +kernel
theorem dX12_readPart_182 : decode cX12_readPart 182 = .ok (.bipush 64, 2) := by decide +kernel
theorem dX12_readPart_184 : decode cX12_readPart 184 = .ok (.iand, 1) := by decide +kernel
theorem dX12_readPart_185 : decode cX12_readPart 185 = .ok (.ifCond .eq 47, 3) := by decide +kernel
theorem dX12_readPart_188 : decode cX12_readPart 188 = .ok (.aload_n 0, 1) := by decide +kernel
theorem dX12_readPart_189 : decode cX12_readPart 189 = .ok (.getfield 84, 3) := by decide +kernel
theorem dX12_readPart_192 : decode cX12_readPart 192 = .ok (.iconst 4, 1) := by decide +kernel
theorem dX12_readPart_193 : decode cX12_readPart 193 = .ok (.iload_n 1, 1) := by decide +kernel
theorem dX12_readPart_194 : decode cX12_readPart 194 = .ok (.imul, 1) := by decide +kernel
theorem dX12_readPart_195 : decode cX12_readPart 195 = .ok (.aload_n 0, 1) := by decide +kernel
theorem dX12_readPart_196 : decode cX12_readPart 196 = .ok (.iload_n 3, 1) := by decide +kernel
theorem dX12_readPart_197 : decode cX12_readPart 197 = .ok (.iconst 2, 1) := by decide +kernel
theorem dX12_readPart_198 : decode cX12_readPart 198 = .ok (.invokevirtual 199, 3) := by decide +kernel
theorem dX12_readPart_201 : decode cX12_readPart 201 = .ok (.invokestatic 210, 3) := by decide +kernel
theorem dX12_readPart_204 : decode cX12_readPart 204 = .ok (.iastore, 1) := by decide +kernel
theorem dX12_readPart_205 : decode cX12_readPart 205 = .ok (.aload_n 0, 1) := by decide +kernel
theorem dX12_readPart_206 : decode cX12_readPart 206 = .ok (.getfield 84, 3) := by decide +kernel
theorem dX12_readPart_209 : decode cX12_readPart 209 = .ok (.iconst 4, 1) := by decide +kernel
theorem dX12_readPart_210 : decode cX12_readPart 210 = .ok (.iload_n 1, 1) := by decide +kernel
theorem dX12_readPart_211 : decode cX12_readPart 211 = .ok (.imul, 1) := by decide +kernel
theorem dX12_readPart_212 : decode cX12_readPart 212 = .ok (.iconst 3, 1) := by decide +kernel
theorem dX12_readPart_213 : decode cX12_readPart 213 = .ok (.iadd, 1) := by decide +kernel
theorem dX12_readPart_214 : decode cX12_readPart 214 = .ok (.aload_n 0, 1) := by decide +kernel
theorem dX12_readPart_215 : decode cX12_readPart 215 = .ok (.iload_n 3, 1) := by decide +kernel
theorem dX12_readPart_216 : decode cX12_readPart 216 = .ok (.iconst 2, 1) := by decide +kernel
theorem dX12_readPart_217 : decode cX12_readPart 217 = .ok (.iadd, 1) := by decide +kernel
theorem dX12_readPart_218 : decode cX12_readPart 218 = .ok (.iconst 2, 1) := by decide +kernel
theorem dX12_readPart_219 : decode cX12_readPart 219 = .ok (.invokevirtual 199, 3) := by decide +kernel
theorem dX12_readPart_222 : decode cX12_readPart 222 = .ok (.invokestatic 210, 3) := by decide +kernel
theorem dX12_readPart_225 : decode cX12_readPart 225 = .ok (.iastore, 1) := by decide +kernel
theorem dX12_readPart_226 : decode cX12_readPart 226 = .ok (.iinc 3 4, 3) := by decide +kernel
theorem dX12_readPart_229 : decode cX12_readPart 229 = .ok (.goto 55, 3) := by decide +kernel
theorem dX12_readPart_232 : decode cX12_readPart 232 = .ok (.iload 4, 2) := by decide +kernel
theorem dX12_readPart_234 : decode cX12_readPart 234 = .ok (.sipush 128, 3) := by decide +kernel
theorem dX12_readPart_237 : decode cX12_readPart 237 = .ok (.iand, 1) := by decide +kernel
theorem dX12_readPart_238 : decode cX12_readPart 238 = .ok (.ifCond .eq 46, 3) := by decide +kernel
theorem dX12_readPart_241 : decode cX12_readPart 241 = .ok (.iconst 0, 1) := by decide +kernel
theorem dX12_readPart_242 : decode cX12_readPart 242 = .ok (.istore 6, 2) := by decide +kernel
theorem dX12_readPart_244 : decode cX12_readPart 244 = .ok (.iload 6, 2) := by decide +kernel
theorem dX12_readPart_246 : decode cX12_readPart 246 = .ok (.iconst 4, 1) := by decide +kernel
theorem dX12_readPart_247 : decode cX12_readPart 247 = .ok (.if_icmp .ge 34, 3) := by decide +kernel
theorem dX12_readPart_250 : decode cX12_readPart 250 = .ok (.aload_n 0, 1) := by decide +kernel
theorem dX12_readPart_251 : decode cX12_readPart 251 = .ok (.getfield 84, 3) := by decide +kernel
theorem dX12_readPart_254 : decode cX12_readPart 254 = .ok (.iconst 4, 1) := by decide +kernel
theorem dX12_readPart_255 : decode cX12_readPart 255 = .ok (.iload_n 1, 1) := by decide +kernel
theorem dX12_readPart_256 : decode cX12_readPart 256 = .ok (.imul, 1) := by decide +kernel
theorem dX12_readPart_257 : decode cX12_readPart 257 = .ok (.iload 6, 2) := by decide +kernel
theorem dX12_readPart_259 : decode cX12_readPart 259 = .ok (.iadd, 1) := by decide +kernel
theorem dX12_readPart_260 : decode cX12_readPart 260 = .ok (.aload_n 0, 1) := by decide +kernel
theorem dX12_readPart_261 : decode cX12_readPart 261 = .ok (.iload_n 3, 1) := by decide +kernel
theorem dX12_readPart_262 : decode cX12_readPart 262 = .ok (.iconst 2, 1) := by decide +kernel
theorem dX12_readPart_263 : decode cX12_readPart 263 = .ok (.iload 6, 2) := by decide +kernel
theorem dX12_readPart_265 : decode cX12_readPart 265 = .ok (.imul, 1) := by decide +kernel
theorem dX12_readPart_266 : decode cX12_readPart 266 = .ok (.iadd, 1) := by decide +kernel
theorem dX12_readPart_267 : decode cX12_readPart 267 = .ok (.iconst 2, 1) := by decide +kernel
theorem dX12_readPart_268 : decode cX12_readPart 268 = .ok (.invokevirtual 199, 3) := by decide +kernel
theorem dX12_readPart_271 : decode cX12_readPart 271 = .ok (.invokestatic 210, 3) := by decide +kernel
theorem dX12_readPart_274 : decode cX12_readPart 274 = .ok (.iastore, 1) := by decide +kernel
theorem dX12_readPart_275 : decode cX12_readPart 275 = .ok (.iinc 6 1, 3) := by decide +kernel
theorem dX12_readPart_278 : decode cX12_readPart 278 = .ok (.goto (-34), 3) := by decide +kernel
theorem dX12_readPart_281 : decode cX12_readPart 281 = .ok (.iinc 3 8, 3) := by decide +kernel
theorem dX12_readPart_284 : decode cX12_readPart 284 = .ok (.iload_n 3, 1) := by decide +kernel
theorem dX12_readPart_285 : decode cX12_readPart 285 = .ok (.iload_n 2, 1) := by decide +kernel
theorem dX12_readPart_286 : decode cX12_readPart 286 = .ok (.isub, 1) := by decide +kernel
theorem dX12_readPart_287 : decode cX12_readPart 287 = .ok (.ireturn, 1) := by decide +kernel
theorem dX12_scaledBy_0 : decode cX12_scaledBy 0 = .ok (.lload_n 0, 1) := by decide +kernel
theorem dX12_scaledBy_1 : decode cX12_scaledBy 1 = .ok (.lload_n 2, 1) := by decide +kernel
theorem dX12_scaledBy_2 : decode cX12_scaledBy 2 = .ok (.lmul, 1) := by decide +kernel
theorem dX12_scaledBy_3 : decode cX12_scaledBy 3 = .ok (.lload 4, 2) := by decide +kernel
theorem dX12_scaledBy_5 : decode cX12_scaledBy 5 = .ok (.lload 6, 2) := by decide +kernel
theorem dX12_scaledBy_7 : decode cX12_scaledBy 7 = .ok (.lmul, 1) := by decide +kernel
theorem dX12_scaledBy_8 : decode cX12_scaledBy 8 = .ok (.ladd, 1) := by decide +kernel
theorem dX12_scaledBy_9 : decode cX12_scaledBy 9 = .ok (.ldc2_w 226, 3) := by decide +kernel
theorem dX12_scaledBy_12 : decode cX12_scaledBy 12 = .ok (.ladd, 1) := by decide +kernel
theorem dX12_scaledBy_13 : decode cX12_scaledBy 13 = .ok (.bipush 14, 2) := by decide +kernel
theorem dX12_scaledBy_15 : decode cX12_scaledBy 15 = .ok (.lshr, 1) := by decide +kernel
theorem dX12_scaledBy_16 : decode cX12_scaledBy 16 = .ok (.l2i, 1) := by decide +kernel
theorem dX12_scaledBy_17 : decode cX12_scaledBy 17 = .ok (.ireturn, 1) := by decide +kernel
theorem dX12_place_0 : decode cX12_place 0 = .ok (.aload_n 0, 1) := by decide +kernel
theorem dX12_place_1 : decode cX12_place 1 = .ok (.getfield 72, 3) := by decide +kernel
theorem dX12_place_4 : decode cX12_place 4 = .ok (.iload_n 1, 1) := by decide +kernel
theorem dX12_place_5 : decode cX12_place 5 = .ok (.iaload, 1) := by decide +kernel
theorem dX12_place_6 : decode cX12_place 6 = .ok (.istore_n 2, 1) := by decide +kernel
theorem dX12_place_7 : decode cX12_place 7 = .ok (.iload_n 2, 1) := by decide +kernel
theorem dX12_place_8 : decode cX12_place 8 = .ok (.aload_n 0, 1) := by decide +kernel
theorem dX12_place_9 : decode cX12_place 9 = .ok (.getfield 136, 3) := by decide +kernel
theorem dX12_place_12 : decode cX12_place 12 = .ok (.if_icmp .ge 94, 3) := by decide +kernel
theorem dX12_place_15 : decode cX12_place 15 = .ok (.aload_n 0, 1) := by decide +kernel
theorem dX12_place_16 : decode cX12_place 16 = .ok (.getfield 39, 3) := by decide +kernel
theorem dX12_place_19 : decode cX12_place 19 = .ok (.iload_n 2, 1) := by decide +kernel
theorem dX12_place_20 : decode cX12_place 20 = .ok (.iaload, 1) := by decide +kernel
theorem dX12_place_21 : decode cX12_place 21 = .ok (.istore_n 3, 1) := by decide +kernel
theorem dX12_place_22 : decode cX12_place 22 = .ok (.aload_n 0, 1) := by decide +kernel
theorem dX12_place_23 : decode cX12_place 23 = .ok (.getfield 42, 3) := by decide +kernel
theorem dX12_place_26 : decode cX12_place 26 = .ok (.iload_n 2, 1) := by decide +kernel
theorem dX12_place_27 : decode cX12_place 27 = .ok (.iaload, 1) := by decide +kernel
theorem dX12_place_28 : decode cX12_place 28 = .ok (.istore 4, 2) := by decide +kernel
theorem dX12_place_30 : decode cX12_place 30 = .ok (.aload_n 0, 1) := by decide +kernel
theorem dX12_place_31 : decode cX12_place 31 = .ok (.getfield 39, 3) := by decide +kernel
theorem dX12_place_34 : decode cX12_place 34 = .ok (.iload_n 2, 1) := by decide +kernel
theorem dX12_place_35 : decode cX12_place 35 = .ok (.aload_n 0, 1) := by decide +kernel
theorem dX12_place_36 : decode cX12_place 36 = .ok (.getfield 84, 3) := by decide +kernel
theorem dX12_place_39 : decode cX12_place 39 = .ok (.iconst 4, 1) := by decide +kernel
theorem dX12_place_40 : decode cX12_place 40 = .ok (.iload_n 1, 1) := by decide +kernel
theorem dX12_place_41 : decode cX12_place 41 = .ok (.imul, 1) := by decide +kernel
theorem dX12_place_42 : decode cX12_place 42 = .ok (.iaload, 1) := by decide +kernel
theorem dX12_place_43 : decode cX12_place 43 = .ok (.i2l, 1) := by decide +kernel
theorem dX12_place_44 : decode cX12_place 44 = .ok (.iload_n 3, 1) := by decide +kernel
theorem dX12_place_45 : decode cX12_place 45 = .ok (.i2l, 1) := by decide +kernel
theorem dX12_place_46 : decode cX12_place 46 = .ok (.aload_n 0, 1) := by decide +kernel
theorem dX12_place_47 : decode cX12_place 47 = .ok (.getfield 84, 3) := by decide +kernel
theorem dX12_place_50 : decode cX12_place 50 = .ok (.iconst 4, 1) := by decide +kernel
theorem dX12_place_51 : decode cX12_place 51 = .ok (.iload_n 1, 1) := by decide +kernel
theorem dX12_place_52 : decode cX12_place 52 = .ok (.imul, 1) := by decide +kernel
theorem dX12_place_53 : decode cX12_place 53 = .ok (.iconst 2, 1) := by decide +kernel
theorem dX12_place_54 : decode cX12_place 54 = .ok (.iadd, 1) := by decide +kernel
theorem dX12_place_55 : decode cX12_place 55 = .ok (.iaload, 1) := by decide +kernel
theorem dX12_place_56 : decode cX12_place 56 = .ok (.i2l, 1) := by decide +kernel
theorem dX12_place_57 : decode cX12_place 57 = .ok (.iload 4, 2) := by decide +kernel
theorem dX12_place_59 : decode cX12_place 59 = .ok (.i2l, 1) := by decide +kernel
theorem dX12_place_60 : decode cX12_place 60 = .ok (.invokestatic 228, 3) := by decide +kernel
theorem dX12_place_63 : decode cX12_place 63 = .ok (.iastore, 1) := by decide +kernel
theorem dX12_place_64 : decode cX12_place 64 = .ok (.aload_n 0, 1) := by decide +kernel
theorem dX12_place_65 : decode cX12_place 65 = .ok (.getfield 42, 3) := by decide +kernel
theorem dX12_place_68 : decode cX12_place 68 = .ok (.iload_n 2, 1) := by decide +kernel
theorem dX12_place_69 : decode cX12_place 69 = .ok (.aload_n 0, 1) := by decide +kernel
theorem dX12_place_70 : decode cX12_place 70 = .ok (.getfield 84, 3) := by decide +kernel
theorem dX12_place_73 : decode cX12_place 73 = .ok (.iconst 4, 1) := by decide +kernel
theorem dX12_place_74 : decode cX12_place 74 = .ok (.iload_n 1, 1) := by decide +kernel
theorem dX12_place_75 : decode cX12_place 75 = .ok (.imul, 1) := by decide +kernel
theorem dX12_place_76 : decode cX12_place 76 = .ok (.iconst 1, 1) := by decide +kernel
theorem dX12_place_77 : decode cX12_place 77 = .ok (.iadd, 1) := by decide +kernel
theorem dX12_place_78 : decode cX12_place 78 = .ok (.iaload, 1) := by decide +kernel
theorem dX12_place_79 : decode cX12_place 79 = .ok (.i2l, 1) := by decide +kernel
theorem dX12_place_80 : decode cX12_place 80 = .ok (.iload_n 3, 1) := by decide +kernel
theorem dX12_place_81 : decode cX12_place 81 = .ok (.i2l, 1) := by decide +kernel
theorem dX12_place_82 : decode cX12_place 82 = .ok (.aload_n 0, 1) := by decide +kernel
theorem dX12_place_83 : decode cX12_place 83 = .ok (.getfield 84, 3) := by decide +kernel
theorem dX12_place_86 : decode cX12_place 86 = .ok (.iconst 4, 1) := by decide +kernel
theorem dX12_place_87 : decode cX12_place 87 = .ok (.iload_n 1, 1) := by decide +kernel
theorem dX12_place_88 : decode cX12_place 88 = .ok (.imul, 1) := by decide +kernel
theorem dX12_place_89 : decode cX12_place 89 = .ok (.iconst 3, 1) := by decide +kernel
theorem dX12_place_90 : decode cX12_place 90 = .ok (.iadd, 1) := by decide +kernel
theorem dX12_place_91 : decode cX12_place 91 = .ok (.iaload, 1) := by decide +kernel
theorem dX12_place_92 : decode cX12_place 92 = .ok (.i2l, 1) := by decide +kernel
theorem dX12_place_93 : decode cX12_place 93 = .ok (.iload 4, 2) := by decide +kernel
theorem dX12_place_95 : decode cX12_place 95 = .ok (.i2l, 1) := by decide +kernel
theorem dX12_place_96 : decode cX12_place 96 = .ok (.invokestatic 228, 3) := by decide +kernel
theorem dX12_place_99 : decode cX12_place 99 = .ok (.iastore, 1) := by decide +kernel
theorem dX12_place_100 : decode cX12_place 100 = .ok (.iinc 2 1, 3) := by decide +kernel
theorem dX12_place_103 : decode cX12_place 103 = .ok (.goto (-96), 3) := by decide +kernel
theorem dX12_place_106 : decode cX12_place 106 = .ok (.aload_n 0, 1) := by decide +kernel
theorem dX12_place_107 : decode cX12_place 107 = .ok (.getfield 78, 3) := by decide +kernel
theorem dX12_place_110 : decode cX12_place 110 = .ok (.iload_n 1, 1) := by decide +kernel
theorem dX12_place_111 : decode cX12_place 111 = .ok (.iaload, 1) := by decide +kernel
theorem dX12_place_112 : decode cX12_place 112 = .ok (.istore_n 2, 1) := by decide +kernel
theorem dX12_place_113 : decode cX12_place 113 = .ok (.aload_n 0, 1) := by decide +kernel
theorem dX12_place_114 : decode cX12_place 114 = .ok (.getfield 81, 3) := by decide +kernel
theorem dX12_place_117 : decode cX12_place 117 = .ok (.iload_n 1, 1) := by decide +kernel
theorem dX12_place_118 : decode cX12_place 118 = .ok (.iaload, 1) := by decide +kernel
theorem dX12_place_119 : decode cX12_place 119 = .ok (.istore_n 3, 1) := by decide +kernel
theorem dX12_place_120 : decode cX12_place 120 = .ok (.aload_n 0, 1) := by decide +kernel
theorem dX12_place_121 : decode cX12_place 121 = .ok (.getfield 75, 3) := by decide +kernel
theorem dX12_place_124 : decode cX12_place 124 = .ok (.iload_n 1, 1) := by decide +kernel
theorem dX12_place_125 : decode cX12_place 125 = .ok (.iaload, 1) := by decide +kernel
theorem dX12_place_126 : decode cX12_place 126 = .ok (.iconst 2, 1) := by decide +kernel
theorem dX12_place_127 : decode cX12_place 127 = .ok (.iand, 1) := by decide +kernel
theorem dX12_place_128 : decode cX12_place 128 = .ok (.ifCond .ne 97, 3) := by decide +kernel
theorem dX12_place_131 : decode cX12_place 131 = .ok (.aload_n 0, 1) := by decide +kernel
theorem dX12_place_132 : decode cX12_place 132 = .ok (.getfield 60, 3) := by decide +kernel
theorem dX12_place_135 : decode cX12_place 135 = .ok (.iload_n 1, 1) := by decide +kernel
theorem dX12_place_136 : decode cX12_place 136 = .ok (.iaload, 1) := by decide +kernel
theorem dX12_place_137 : decode cX12_place 137 = .ok (.aload_n 0, 1) := by decide +kernel
theorem dX12_place_138 : decode cX12_place 138 = .ok (.getfield 78, 3) := by decide +kernel
theorem dX12_place_141 : decode cX12_place 141 = .ok (.iload_n 1, 1) := by decide +kernel
theorem dX12_place_142 : decode cX12_place 142 = .ok (.iaload, 1) := by decide +kernel
theorem dX12_place_143 : decode cX12_place 143 = .ok (.iadd, 1) := by decide +kernel
theorem dX12_place_144 : decode cX12_place 144 = .ok (.istore 4, 2) := by decide +kernel
theorem dX12_place_146 : decode cX12_place 146 = .ok (.aload_n 0, 1) := by decide +kernel
theorem dX12_place_147 : decode cX12_place 147 = .ok (.getfield 72, 3) := by decide +kernel
theorem dX12_place_150 : decode cX12_place 150 = .ok (.iload_n 1, 1) := by decide +kernel
theorem dX12_place_151 : decode cX12_place 151 = .ok (.iaload, 1) := by decide +kernel
theorem dX12_place_152 : decode cX12_place 152 = .ok (.aload_n 0, 1) := by decide +kernel
theorem dX12_place_153 : decode cX12_place 153 = .ok (.getfield 81, 3) := by decide +kernel
theorem dX12_place_156 : decode cX12_place 156 = .ok (.iload_n 1, 1) := by decide +kernel
theorem dX12_place_157 : decode cX12_place 157 = .ok (.iaload, 1) := by decide +kernel
theorem dX12_place_158 : decode cX12_place 158 = .ok (.iadd, 1) := by decide +kernel
theorem dX12_place_159 : decode cX12_place 159 = .ok (.istore 5, 2) := by decide +kernel
theorem dX12_place_161 : decode cX12_place 161 = .ok (.iload 4, 2) := by decide +kernel
theorem dX12_place_163 : decode cX12_place 163 = .ok (.aload_n 0, 1) := by decide +kernel
theorem dX12_place_164 : decode cX12_place 164 = .ok (.getfield 72, 3) := by decide +kernel
theorem dX12_place_167 : decode cX12_place 167 = .ok (.iload_n 1, 1) := by decide +kernel
theorem dX12_place_168 : decode cX12_place 168 = .ok (.iaload, 1) := by decide +kernel
theorem dX12_place_169 : decode cX12_place 169 = .ok (.if_icmp .ge 12, 3) := by decide +kernel
theorem dX12_place_172 : decode cX12_place 172 = .ok (.iload 5, 2) := by decide +kernel
theorem dX12_place_174 : decode cX12_place 174 = .ok (.aload_n 0, 1) := by decide +kernel
theorem dX12_place_175 : decode cX12_place 175 = .ok (.getfield 136, 3) := by decide +kernel
theorem dX12_place_178 : decode cX12_place 178 = .ok (.if_icmp .lt 15, 3) := by decide +kernel
theorem dX12_place_181 : decode cX12_place 181 = .ok (.aload_n 0, 1) := by decide +kernel
theorem dX12_place_182 : decode cX12_place 182 = .ok (.iconst 3, 1) := by decide +kernel
theorem dX12_place_183 : decode cX12_place 183 = .ok (.aload_n 0, 1) := by decide +kernel
theorem dX12_place_184 : decode cX12_place 184 = .ok (.getfield 69, 3) := by decide +kernel
theorem dX12_place_187 : decode cX12_place 187 = .ok (.iload_n 1, 1) := by decide +kernel
theorem dX12_place_188 : decode cX12_place 188 = .ok (.iaload, 1) := by decide +kernel
theorem dX12_place_189 : decode cX12_place 189 = .ok (.invokevirtual 159, 3) := by decide +kernel
theorem dX12_place_192 : decode cX12_place 192 = .ok (.return_, 1) := by decide +kernel
theorem dX12_place_193 : decode cX12_place 193 = .ok (.aload_n 0, 1) := by decide +kernel
theorem dX12_place_194 : decode cX12_place 194 = .ok (.getfield 39, 3) := by decide +kernel
theorem dX12_place_197 : decode cX12_place 197 = .ok (.iload 4, 2) := by decide +kernel
theorem dX12_place_199 : decode cX12_place 199 = .ok (.iaload, 1) := by decide +kernel
theorem dX12_place_200 : decode cX12_place 200 = .ok (.aload_n 0, 1) := by decide +kernel
theorem dX12_place_201 : decode cX12_place 201 = .ok (.getfield 39, 3) := by decide +kernel
theorem dX12_place_204 : decode cX12_place 204 = .ok (.iload 5, 2) := by decide +kernel
theorem dX12_place_206 : decode cX12_place 206 = .ok (.iaload, 1) := by decide +kernel
theorem dX12_place_207 : decode cX12_place 207 = .ok (.isub, 1) := by decide +kernel
theorem dX12_place_208 : decode cX12_place 208 = .ok (.istore_n 2, 1) := by decide +kernel
theorem dX12_place_209 : decode cX12_place 209 = .ok (.aload_n 0, 1) := by decide +kernel
theorem dX12_place_210 : decode cX12_place 210 = .ok (.getfield 42, 3) := by decide +kernel
theorem dX12_place_213 : decode cX12_place 213 = .ok (.iload 4, 2) := by decide +kernel
theorem dX12_place_215 : decode cX12_place 215 = .ok (.iaload, 1) := by decide +kernel
theorem dX12_place_216 : decode cX12_place 216 = .ok (.aload_n 0, 1) := by decide +kernel
theorem dX12_place_217 : decode cX12_place 217 = .ok (.getfield 42, 3) := by decide +kernel
theorem dX12_place_220 : decode cX12_place 220 = .ok (.iload 5, 2) := by decide +kernel
theorem dX12_place_222 : decode cX12_place 222 = .ok (.iaload, 1) := by decide +kernel
theorem dX12_place_223 : decode cX12_place 223 = .ok (.isub, 1) := by decide +kernel
theorem dX12_place_224 : decode cX12_place 224 = .ok (.istore_n 3, 1) := by decide +kernel
theorem dX12_place_225 : decode cX12_place 225 = .ok (.aload_n 0, 1) := by decide +kernel
theorem dX12_place_226 : decode cX12_place 226 = .ok (.getfield 72, 3) := by decide +kernel
theorem dX12_place_229 : decode cX12_place 229 = .ok (.iload_n 1, 1) := by decide +kernel
theorem dX12_place_230 : decode cX12_place 230 = .ok (.iaload, 1) := by decide +kernel
theorem dX12_place_231 : decode cX12_place 231 = .ok (.istore 4, 2) := by decide +kernel
theorem dX12_place_233 : decode cX12_place 233 = .ok (.iload 4, 2) := by decide +kernel
theorem dX12_place_235 : decode cX12_place 235 = .ok (.aload_n 0, 1) := by decide +kernel
theorem dX12_place_236 : decode cX12_place 236 = .ok (.getfield 136, 3) := by decide +kernel
theorem dX12_place_239 : decode cX12_place 239 = .ok (.if_icmp .ge 31, 3) := by decide +kernel
theorem dX12_place_242 : decode cX12_place 242 = .ok (.aload_n 0, 1) := by decide +kernel
theorem dX12_place_243 : decode cX12_place 243 = .ok (.getfield 39, 3) := by decide +kernel
theorem dX12_place_246 : decode cX12_place 246 = .ok (.iload 4, 2) := by decide +kernel
theorem dX12_place_248 : decode cX12_place 248 = .ok (.dup2, 1) := by decide +kernel
theorem dX12_place_249 : decode cX12_place 249 = .ok (.iaload, 1) := by decide +kernel
theorem dX12_place_250 : decode cX12_place 250 = .ok (.iload_n 2, 1) := by decide +kernel
theorem dX12_place_251 : decode cX12_place 251 = .ok (.iadd, 1) := by decide +kernel
theorem dX12_place_252 : decode cX12_place 252 = .ok (.iastore, 1) := by decide +kernel
theorem dX12_place_253 : decode cX12_place 253 = .ok (.aload_n 0, 1) := by decide +kernel
theorem dX12_place_254 : decode cX12_place 254 = .ok (.getfield 42, 3) := by decide +kernel
theorem dX12_place_257 : decode cX12_place 257 = .ok (.iload 4, 2) := by decide +kernel
theorem dX12_place_259 : decode cX12_place 259 = .ok (.dup2, 1) := by decide +kernel
theorem dX12_place_260 : decode cX12_place 260 = .ok (.iaload, 1) := by decide +kernel
theorem dX12_place_261 : decode cX12_place 261 = .ok (.iload_n 3, 1) := by decide +kernel
theorem dX12_place_262 : decode cX12_place 262 = .ok (.iadd, 1) := by decide +kernel
theorem dX12_place_263 : decode cX12_place 263 = .ok (.iastore, 1) := by decide +kernel
theorem dX12_place_264 : decode cX12_place 264 = .ok (.iinc 4 1, 3) := by decide +kernel
theorem dX12_place_267 : decode cX12_place 267 = .ok (.goto (-34), 3) := by decide +kernel
theorem dX12_place_270 : decode cX12_place 270 = .ok (.return_, 1) := by decide +kernel
theorem dX12_goOn_0 : decode cX12_goOn 0 = .ok (.aload_n 0, 1) := by decide +kernel
theorem dX12_goOn_1 : decode cX12_goOn 1 = .ok (.getfield 213, 3) := by decide +kernel
theorem dX12_goOn_4 : decode cX12_goOn 4 = .ok (.iconst 1, 1) := by decide +kernel
theorem dX12_goOn_5 : decode cX12_goOn 5 = .ok (.isub, 1) := by decide +kernel
theorem dX12_goOn_6 : decode cX12_goOn 6 = .ok (.istore_n 1, 1) := by decide +kernel
theorem dX12_goOn_7 : decode cX12_goOn 7 = .ok (.aload_n 0, 1) := by decide +kernel
theorem dX12_goOn_8 : decode cX12_goOn 8 = .ok (.getfield 66, 3) := by decide +kernel
theorem dX12_goOn_11 : decode cX12_goOn 11 = .ok (.iload_n 1, 1) := by decide +kernel
theorem dX12_goOn_12 : decode cX12_goOn 12 = .ok (.baload, 1) := by decide +kernel
theorem dX12_goOn_13 : decode cX12_goOn 13 = .ok (.ifCond .ne 31, 3) := by decide +kernel
theorem dX12_goOn_16 : decode cX12_goOn 16 = .ok (.aload_n 0, 1) := by decide +kernel
theorem dX12_goOn_17 : decode cX12_goOn 17 = .ok (.dup, 1) := by decide +kernel
theorem dX12_goOn_18 : decode cX12_goOn 18 = .ok (.getfield 213, 3) := by decide +kernel
theorem dX12_goOn_21 : decode cX12_goOn 21 = .ok (.iconst 1, 1) := by decide +kernel
theorem dX12_goOn_22 : decode cX12_goOn 22 = .ok (.isub, 1) := by decide +kernel
theorem dX12_goOn_23 : decode cX12_goOn 23 = .ok (.putfield 213, 3) := by decide +kernel
theorem dX12_goOn_26 : decode cX12_goOn 26 = .ok (.aload_n 0, 1) := by decide +kernel
theorem dX12_goOn_27 : decode cX12_goOn 27 = .ok (.getfield 213, 3) := by decide +kernel
theorem dX12_goOn_30 : decode cX12_goOn 30 = .ok (.ifCond .le 13, 3) := by decide +kernel
theorem dX12_goOn_33 : decode cX12_goOn 33 = .ok (.aload_n 0, 1) := by decide +kernel
theorem dX12_goOn_34 : decode cX12_goOn 34 = .ok (.aload_n 0, 1) := by decide +kernel
theorem dX12_goOn_35 : decode cX12_goOn 35 = .ok (.getfield 213, 3) := by decide +kernel
theorem dX12_goOn_38 : decode cX12_goOn 38 = .ok (.iconst 1, 1) := by decide +kernel
theorem dX12_goOn_39 : decode cX12_goOn 39 = .ok (.isub, 1) := by decide +kernel
theorem dX12_goOn_40 : decode cX12_goOn 40 = .ok (.invokevirtual 232, 3) := by decide +kernel
theorem dX12_goOn_43 : decode cX12_goOn 43 = .ok (.return_, 1) := by decide +kernel
theorem dX12_goOn_44 : decode cX12_goOn 44 = .ok (.aload_n 0, 1) := by decide +kernel
theorem dX12_goOn_45 : decode cX12_goOn 45 = .ok (.aload_n 0, 1) := by decide +kernel
theorem dX12_goOn_46 : decode cX12_goOn 46 = .ok (.getfield 54, 3) := by decide +kernel
theorem dX12_goOn_49 : decode cX12_goOn 49 = .ok (.iload_n 1, 1) := by decide +kernel
theorem dX12_goOn_50 : decode cX12_goOn 50 = .ok (.iaload, 1) := by decide +kernel
theorem dX12_goOn_51 : decode cX12_goOn 51 = .ok (.invokevirtual 216, 3) := by decide +kernel
theorem dX12_goOn_54 : decode cX12_goOn 54 = .ok (.istore_n 2, 1) := by decide +kernel
theorem dX12_goOn_55 : decode cX12_goOn 55 = .ok (.aload_n 0, 1) := by decide +kernel
theorem dX12_goOn_56 : decode cX12_goOn 56 = .ok (.iload_n 1, 1) := by decide +kernel
theorem dX12_goOn_57 : decode cX12_goOn 57 = .ok (.aload_n 0, 1) := by decide +kernel
theorem dX12_goOn_58 : decode cX12_goOn 58 = .ok (.getfield 57, 3) := by decide +kernel
theorem dX12_goOn_61 : decode cX12_goOn 61 = .ok (.iload_n 1, 1) := by decide +kernel
theorem dX12_goOn_62 : decode cX12_goOn 62 = .ok (.iaload, 1) := by decide +kernel
theorem dX12_goOn_63 : decode cX12_goOn 63 = .ok (.invokevirtual 236, 3) := by decide +kernel
theorem dX12_goOn_66 : decode cX12_goOn 66 = .ok (.istore_n 3, 1) := by decide +kernel
theorem dX12_goOn_67 : decode cX12_goOn 67 = .ok (.iload_n 2, 1) := by decide +kernel
theorem dX12_goOn_68 : decode cX12_goOn 68 = .ok (.ifCond .eq 10, 3) := by decide +kernel
theorem dX12_goOn_71 : decode cX12_goOn 71 = .ok (.aload_n 0, 1) := by decide +kernel
theorem dX12_goOn_72 : decode cX12_goOn 72 = .ok (.getfield 114, 3) := by decide +kernel
theorem dX12_goOn_75 : decode cX12_goOn 75 = .ok (.ifCond .eq 42, 3) := by decide +kernel
theorem dX12_goOn_78 : decode cX12_goOn 78 = .ok (.aload_n 0, 1) := by decide +kernel
theorem dX12_goOn_79 : decode cX12_goOn 79 = .ok (.aload_n 0, 1) := by decide +kernel
theorem dX12_goOn_80 : decode cX12_goOn 80 = .ok (.getfield 60, 3) := by decide +kernel
theorem dX12_goOn_83 : decode cX12_goOn 83 = .ok (.iload_n 1, 1) := by decide +kernel
theorem dX12_goOn_84 : decode cX12_goOn 84 = .ok (.iaload, 1) := by decide +kernel
theorem dX12_goOn_85 : decode cX12_goOn 85 = .ok (.putfield 136, 3) := by decide +kernel
theorem dX12_goOn_88 : decode cX12_goOn 88 = .ok (.aload_n 0, 1) := by decide +kernel
theorem dX12_goOn_89 : decode cX12_goOn 89 = .ok (.aload_n 0, 1) := by decide +kernel
theorem dX12_goOn_90 : decode cX12_goOn 90 = .ok (.getfield 63, 3) := by decide +kernel
theorem dX12_goOn_93 : decode cX12_goOn 93 = .ok (.iload_n 1, 1) := by decide +kernel
theorem dX12_goOn_94 : decode cX12_goOn 94 = .ok (.iaload, 1) := by decide +kernel
theorem dX12_goOn_95 : decode cX12_goOn 95 = .ok (.putfield 139, 3) := by decide +kernel
theorem dX12_goOn_98 : decode cX12_goOn 98 = .ok (.aload_n 0, 1) := by decide +kernel
theorem dX12_goOn_99 : decode cX12_goOn 99 = .ok (.iconst 1, 1) := by decide +kernel
theorem dX12_goOn_100 : decode cX12_goOn 100 = .ok (.aload_n 0, 1) := by decide +kernel
theorem dX12_goOn_101 : decode cX12_goOn 101 = .ok (.getfield 54, 3) := by decide +kernel
theorem dX12_goOn_104 : decode cX12_goOn 104 = .ok (.iload_n 1, 1) := by decide +kernel
theorem dX12_goOn_105 : decode cX12_goOn 105 = .ok (.iaload, 1) := by decide +kernel
theorem dX12_goOn_106 : decode cX12_goOn 106 = .ok (.invokevirtual 159, 3) := by decide +kernel
theorem dX12_goOn_109 : decode cX12_goOn 109 = .ok (.aload_n 0, 1) := by decide +kernel
theorem dX12_goOn_110 : decode cX12_goOn 110 = .ok (.getfield 66, 3) := by decide +kernel
theorem dX12_goOn_113 : decode cX12_goOn 113 = .ok (.iload_n 1, 1) := by decide +kernel
theorem dX12_goOn_114 : decode cX12_goOn 114 = .ok (.iconst 0, 1) := by decide +kernel
theorem dX12_goOn_115 : decode cX12_goOn 115 = .ok (.bastore, 1) := by decide +kernel
theorem dX12_goOn_116 : decode cX12_goOn 116 = .ok (.return_, 1) := by decide +kernel
theorem dX12_goOn_117 : decode cX12_goOn 117 = .ok (.aload_n 0, 1) := by decide +kernel
theorem dX12_goOn_118 : decode cX12_goOn 118 = .ok (.getfield 57, 3) := by decide +kernel
theorem dX12_goOn_121 : decode cX12_goOn 121 = .ok (.iload_n 1, 1) := by decide +kernel
theorem dX12_goOn_122 : decode cX12_goOn 122 = .ok (.dup2, 1) := by decide +kernel
theorem dX12_goOn_123 : decode cX12_goOn 123 = .ok (.iaload, 1) := by decide +kernel
theorem dX12_goOn_124 : decode cX12_goOn 124 = .ok (.iload_n 3, 1) := by decide +kernel
theorem dX12_goOn_125 : decode cX12_goOn 125 = .ok (.iadd, 1) := by decide +kernel
theorem dX12_goOn_126 : decode cX12_goOn 126 = .ok (.iastore, 1) := by decide +kernel
theorem dX12_goOn_127 : decode cX12_goOn 127 = .ok (.aload_n 0, 1) := by decide +kernel
theorem dX12_goOn_128 : decode cX12_goOn 128 = .ok (.getfield 66, 3) := by decide +kernel
theorem dX12_goOn_131 : decode cX12_goOn 131 = .ok (.iload_n 1, 1) := by decide +kernel
theorem dX12_goOn_132 : decode cX12_goOn 132 = .ok (.aload_n 0, 1) := by decide +kernel
theorem dX12_goOn_133 : decode cX12_goOn 133 = .ok (.getfield 75, 3) := by decide +kernel
theorem dX12_goOn_136 : decode cX12_goOn 136 = .ok (.iload_n 1, 1) := by decide +kernel
theorem dX12_goOn_137 : decode cX12_goOn 137 = .ok (.iaload, 1) := by decide +kernel
theorem dX12_goOn_138 : decode cX12_goOn 138 = .ok (.bipush 32, 2) := by decide +kernel
theorem dX12_goOn_140 : decode cX12_goOn 140 = .ok (.iand, 1) := by decide +kernel
theorem dX12_goOn_141 : decode cX12_goOn 141 = .ok (.ifCond .eq 7, 3) := by decide +kernel
theorem dX12_goOn_144 : decode cX12_goOn 144 = .ok (.iconst 1, 1) := by decide +kernel
theorem dX12_goOn_145 : decode cX12_goOn 145 = .ok (.goto 4, 3) := by decide +kernel
theorem dX12_goOn_148 : decode cX12_goOn 148 = .ok (.iconst 0, 1) := by decide +kernel
theorem dX12_goOn_149 : decode cX12_goOn 149 = .ok (.bastore, 1) := by decide +kernel
theorem dX12_goOn_150 : decode cX12_goOn 150 = .ok (.aload_n 0, 1) := by decide +kernel
theorem dX12_goOn_151 : decode cX12_goOn 151 = .ok (.getfield 72, 3) := by decide +kernel
theorem dX12_goOn_154 : decode cX12_goOn 154 = .ok (.iload_n 1, 1) := by decide +kernel
theorem dX12_goOn_155 : decode cX12_goOn 155 = .ok (.aload_n 0, 1) := by decide +kernel
theorem dX12_goOn_156 : decode cX12_goOn 156 = .ok (.getfield 136, 3) := by decide +kernel
theorem dX12_goOn_159 : decode cX12_goOn 159 = .ok (.iastore, 1) := by decide +kernel
theorem dX12_goOn_160 : decode cX12_goOn 160 = .ok (.aload_n 0, 1) := by decide +kernel
theorem dX12_goOn_161 : decode cX12_goOn 161 = .ok (.getfield 69, 3) := by decide +kernel
theorem dX12_goOn_164 : decode cX12_goOn 164 = .ok (.iload_n 1, 1) := by decide +kernel
theorem dX12_goOn_165 : decode cX12_goOn 165 = .ok (.iaload, 1) := by decide +kernel
theorem dX12_goOn_166 : decode cX12_goOn 166 = .ok (.istore 4, 2) := by decide +kernel
theorem dX12_goOn_168 : decode cX12_goOn 168 = .ok (.aload_n 0, 1) := by decide +kernel
theorem dX12_goOn_169 : decode cX12_goOn 169 = .ok (.iload 4, 2) := by decide +kernel
theorem dX12_goOn_171 : decode cX12_goOn 171 = .ok (.invokevirtual 239, 3) := by decide +kernel
theorem dX12_goOn_174 : decode cX12_goOn 174 = .ok (.ifCond .eq 20, 3) := by decide +kernel
theorem dX12_goOn_177 : decode cX12_goOn 177 = .ok (.aload_n 0, 1) := by decide +kernel
theorem dX12_goOn_178 : decode cX12_goOn 178 = .ok (.iload 4, 2) := by decide +kernel
theorem dX12_goOn_180 : decode cX12_goOn 180 = .ok (.invokevirtual 242, 3) := by decide +kernel
theorem dX12_goOn_183 : decode cX12_goOn 183 = .ok (.ifCond .ne 11, 3) := by decide +kernel
theorem dX12_goOn_186 : decode cX12_goOn 186 = .ok (.aload_n 0, 1) := by decide +kernel
theorem dX12_goOn_187 : decode cX12_goOn 187 = .ok (.getfield 213, 3) := by decide +kernel
theorem dX12_goOn_190 : decode cX12_goOn 190 = .ok (.iconst 5, 1) := by decide +kernel
theorem dX12_goOn_191 : decode cX12_goOn 191 = .ok (.if_icmp .le 13, 3) := by decide +kernel
theorem dX12_goOn_194 : decode cX12_goOn 194 = .ok (.aload_n 0, 1) := by decide +kernel
theorem dX12_goOn_195 : decode cX12_goOn 195 = .ok (.iconst 4, 1) := by decide +kernel
theorem dX12_goOn_196 : decode cX12_goOn 196 = .ok (.iload 4, 2) := by decide +kernel
theorem dX12_goOn_198 : decode cX12_goOn 198 = .ok (.invokevirtual 159, 3) := by decide +kernel
theorem dX12_goOn_201 : decode cX12_goOn 201 = .ok (.goto 17, 3) := by decide +kernel
theorem dX12_goOn_204 : decode cX12_goOn 204 = .ok (.aload_n 0, 1) := by decide +kernel
theorem dX12_goOn_205 : decode cX12_goOn 205 = .ok (.iload 4, 2) := by decide +kernel
theorem dX12_goOn_207 : decode cX12_goOn 207 = .ok (.invokevirtual 245, 3) := by decide +kernel
theorem dX12_goOn_210 : decode cX12_goOn 210 = .ok (.ifCond .ne 8, 3) := by decide +kernel
theorem dX12_goOn_213 : decode cX12_goOn 213 = .ok (.aload_n 0, 1) := by decide +kernel
theorem dX12_goOn_214 : decode cX12_goOn 214 = .ok (.iload_n 1, 1) := by decide +kernel
theorem dX12_goOn_215 : decode cX12_goOn 215 = .ok (.invokevirtual 232, 3) := by decide +kernel
theorem dX12_goOn_218 : decode cX12_goOn 218 = .ok (.return_, 1) := by decide +kernel
theorem dX12_piece_0 : decode cX12_piece 0 = .ok (.bipush 8, 2) := by decide +kernel
theorem dX12_piece_2 : decode cX12_piece 2 = .ok (.aload_n 0, 1) := by decide +kernel
theorem dX12_piece_3 : decode cX12_piece 3 = .ok (.getfield 142, 3) := by decide +kernel
theorem dX12_piece_6 : decode cX12_piece 6 = .ok (.imul, 1) := by decide +kernel
theorem dX12_piece_7 : decode cX12_piece 7 = .ok (.istore 9, 2) := by decide +kernel
theorem dX12_piece_9 : decode cX12_piece 9 = .ok (.aload_n 0, 1) := by decide +kernel
theorem dX12_piece_10 : decode cX12_piece 10 = .ok (.getfield 87, 3) := by decide +kernel
theorem dX12_piece_13 : decode cX12_piece 13 = .ok (.iload 9, 2) := by decide +kernel
theorem dX12_piece_15 : decode cX12_piece 15 = .ok (.iload_n 1, 1) := by decide +kernel
theorem dX12_piece_16 : decode cX12_piece 16 = .ok (.iastore, 1) := by decide +kernel
theorem dX12_piece_17 : decode cX12_piece 17 = .ok (.aload_n 0, 1) := by decide +kernel
theorem dX12_piece_18 : decode cX12_piece 18 = .ok (.getfield 87, 3) := by decide +kernel
theorem dX12_piece_21 : decode cX12_piece 21 = .ok (.iload 9, 2) := by decide +kernel
theorem dX12_piece_23 : decode cX12_piece 23 = .ok (.iconst 1, 1) := by decide +kernel
theorem dX12_piece_24 : decode cX12_piece 24 = .ok (.iadd, 1) := by decide +kernel
theorem dX12_piece_25 : decode cX12_piece 25 = .ok (.iload_n 2, 1) := by decide +kernel
theorem dX12_piece_26 : decode cX12_piece 26 = .ok (.ifCond .eq 7, 3) := by decide +kernel
theorem dX12_piece_29 : decode cX12_piece 29 = .ok (.iconst 1, 1) := by decide +kernel
theorem dX12_piece_30 : decode cX12_piece 30 = .ok (.goto 4, 3) := by decide +kernel
theorem dX12_piece_33 : decode cX12_piece 33 = .ok (.iconst 0, 1) := by decide +kernel
theorem dX12_piece_34 : decode cX12_piece 34 = .ok (.iastore, 1) := by decide +kernel
theorem dX12_piece_35 : decode cX12_piece 35 = .ok (.aload_n 0, 1) := by decide +kernel
theorem dX12_piece_36 : decode cX12_piece 36 = .ok (.getfield 87, 3) := by decide +kernel
theorem dX12_piece_39 : decode cX12_piece 39 = .ok (.iload 9, 2) := by decide +kernel
theorem dX12_piece_41 : decode cX12_piece 41 = .ok (.iconst 2, 1) := by decide +kernel
theorem dX12_piece_42 : decode cX12_piece 42 = .ok (.iadd, 1) := by decide +kernel
theorem dX12_piece_43 : decode cX12_piece 43 = .ok (.iload_n 3, 1) := by decide +kernel
theorem dX12_piece_44 : decode cX12_piece 44 = .ok (.iastore, 1) := by decide +kernel
theorem dX12_piece_45 : decode cX12_piece 45 = .ok (.aload_n 0, 1) := by decide +kernel
theorem dX12_piece_46 : decode cX12_piece 46 = .ok (.getfield 87, 3) := by decide +kernel
theorem dX12_piece_49 : decode cX12_piece 49 = .ok (.iload 9, 2) := by decide +kernel
theorem dX12_piece_51 : decode cX12_piece 51 = .ok (.iconst 3, 1) := by decide +kernel
theorem dX12_piece_52 : decode cX12_piece 52 = .ok (.iadd, 1) := by decide +kernel
theorem dX12_piece_53 : decode cX12_piece 53 = .ok (.iload 4, 2) := by decide +kernel
theorem dX12_piece_55 : decode cX12_piece 55 = .ok (.iastore, 1) := by decide +kernel
theorem dX12_piece_56 : decode cX12_piece 56 = .ok (.aload_n 0, 1) := by decide +kernel
theorem dX12_piece_57 : decode cX12_piece 57 = .ok (.getfield 87, 3) := by decide +kernel
theorem dX12_piece_60 : decode cX12_piece 60 = .ok (.iload 9, 2) := by decide +kernel
theorem dX12_piece_62 : decode cX12_piece 62 = .ok (.iconst 4, 1) := by decide +kernel
theorem dX12_piece_63 : decode cX12_piece 63 = .ok (.iadd, 1) := by decide +kernel
theorem dX12_piece_64 : decode cX12_piece 64 = .ok (.iload_n 2, 1) := by decide +kernel
theorem dX12_piece_65 : decode cX12_piece 65 = .ok (.ifCond .eq 8, 3) := by decide +kernel
theorem dX12_piece_68 : decode cX12_piece 68 = .ok (.iload 5, 2) := by decide +kernel
theorem dX12_piece_70 : decode cX12_piece 70 = .ok (.goto 4, 3) := by decide +kernel
theorem dX12_piece_73 : decode cX12_piece 73 = .ok (.iconst 0, 1) := by decide +kernel
theorem dX12_piece_74 : decode cX12_piece 74 = .ok (.iastore, 1) := by decide +kernel
theorem dX12_piece_75 : decode cX12_piece 75 = .ok (.aload_n 0, 1) := by decide +kernel
theorem dX12_piece_76 : decode cX12_piece 76 = .ok (.getfield 87, 3) := by decide +kernel
theorem dX12_piece_79 : decode cX12_piece 79 = .ok (.iload 9, 2) := by decide +kernel
theorem dX12_piece_81 : decode cX12_piece 81 = .ok (.iconst 5, 1) := by decide +kernel
theorem dX12_piece_82 : decode cX12_piece 82 = .ok (.iadd, 1) := by decide +kernel
theorem dX12_piece_83 : decode cX12_piece 83 = .ok (.iload_n 2, 1) := by decide +kernel
theorem dX12_piece_84 : decode cX12_piece 84 = .ok (.ifCond .eq 8, 3) := by decide +kernel
theorem dX12_piece_87 : decode cX12_piece 87 = .ok (.iload 6, 2) := by decide +kernel
theorem dX12_piece_89 : decode cX12_piece 89 = .ok (.goto 4, 3) := by decide +kernel
theorem dX12_piece_92 : decode cX12_piece 92 = .ok (.iconst 0, 1) := by decide +kernel
theorem dX12_piece_93 : decode cX12_piece 93 = .ok (.iastore, 1) := by decide +kernel
theorem dX12_piece_94 : decode cX12_piece 94 = .ok (.aload_n 0, 1) := by decide +kernel
theorem dX12_piece_95 : decode cX12_piece 95 = .ok (.getfield 87, 3) := by decide +kernel
theorem dX12_piece_98 : decode cX12_piece 98 = .ok (.iload 9, 2) := by decide +kernel
theorem dX12_piece_100 : decode cX12_piece 100 = .ok (.bipush 6, 2) := by decide +kernel
theorem dX12_piece_102 : decode cX12_piece 102 = .ok (.iadd, 1) := by decide +kernel
theorem dX12_piece_103 : decode cX12_piece 103 = .ok (.iload 7, 2) := by decide +kernel
theorem dX12_piece_105 : decode cX12_piece 105 = .ok (.iastore, 1) := by decide +kernel
theorem dX12_piece_106 : decode cX12_piece 106 = .ok (.aload_n 0, 1) := by decide +kernel
theorem dX12_piece_107 : decode cX12_piece 107 = .ok (.getfield 87, 3) := by decide +kernel
theorem dX12_piece_110 : decode cX12_piece 110 = .ok (.iload 9, 2) := by decide +kernel
theorem dX12_piece_112 : decode cX12_piece 112 = .ok (.bipush 7, 2) := by decide +kernel
theorem dX12_piece_114 : decode cX12_piece 114 = .ok (.iadd, 1) := by decide +kernel
theorem dX12_piece_115 : decode cX12_piece 115 = .ok (.iload 8, 2) := by decide +kernel
theorem dX12_piece_117 : decode cX12_piece 117 = .ok (.iastore, 1) := by decide +kernel
theorem dX12_piece_118 : decode cX12_piece 118 = .ok (.aload_n 0, 1) := by decide +kernel
theorem dX12_piece_119 : decode cX12_piece 119 = .ok (.dup, 1) := by decide +kernel
theorem dX12_piece_120 : decode cX12_piece 120 = .ok (.getfield 142, 3) := by decide +kernel
theorem dX12_piece_123 : decode cX12_piece 123 = .ok (.iconst 1, 1) := by decide +kernel
theorem dX12_piece_124 : decode cX12_piece 124 = .ok (.iadd, 1) := by decide +kernel
theorem dX12_piece_125 : decode cX12_piece 125 = .ok (.putfield 142, 3) := by decide +kernel
theorem dX12_piece_128 : decode cX12_piece 128 = .ok (.return_, 1) := by decide +kernel
theorem dX12_goRound_0 : decode cX12_goRound 0 = .ok (.iconst 0, 1) := by decide +kernel
theorem dX12_goRound_1 : decode cX12_goRound 1 = .ok (.istore 4, 2) := by decide +kernel
theorem dX12_goRound_3 : decode cX12_goRound 3 = .ok (.iload 4, 2) := by decide +kernel
theorem dX12_goRound_5 : decode cX12_goRound 5 = .ok (.iload_n 3, 1) := by decide +kernel
theorem dX12_goRound_6 : decode cX12_goRound 6 = .ok (.if_icmp .ge 21, 3) := by decide +kernel
theorem dX12_goRound_9 : decode cX12_goRound 9 = .ok (.aload_n 0, 1) := by decide +kernel
theorem dX12_goRound_10 : decode cX12_goRound 10 = .ok (.getfield 45, 3) := by decide +kernel
theorem dX12_goRound_13 : decode cX12_goRound 13 = .ok (.iload_n 2, 1) := by decide +kernel
theorem dX12_goRound_14 : decode cX12_goRound 14 = .ok (.iload 4, 2) := by decide +kernel
theorem dX12_goRound_16 : decode cX12_goRound 16 = .ok (.iadd, 1) := by decide +kernel
theorem dX12_goRound_17 : decode cX12_goRound 17 = .ok (.baload, 1) := by decide +kernel
theorem dX12_goRound_18 : decode cX12_goRound 18 = .ok (.ifCond .ne 9, 3) := by decide +kernel
theorem dX12_goRound_21 : decode cX12_goRound 21 = .ok (.iinc 4 1, 3) := by decide +kernel
theorem dX12_goRound_24 : decode cX12_goRound 24 = .ok (.goto (-21), 3) := by decide +kernel
theorem dX12_goRound_27 : decode cX12_goRound 27 = .ok (.iload 4, 2) := by decide +kernel
theorem dX12_goRound_29 : decode cX12_goRound 29 = .ok (.iload_n 3, 1) := by decide +kernel
theorem dX12_goRound_30 : decode cX12_goRound 30 = .ok (.if_icmp .ne 7, 3) := by decide +kernel
theorem dX12_goRound_33 : decode cX12_goRound 33 = .ok (.iconst 1, 1) := by decide +kernel
theorem dX12_goRound_34 : decode cX12_goRound 34 = .ok (.goto 4, 3) := by decide +kernel
theorem dX12_goRound_37 : decode cX12_goRound 37 = .ok (.iconst 0, 1) := by decide +kernel
theorem dX12_goRound_38 : decode cX12_goRound 38 = .ok (.istore 5, 2) := by decide +kernel
theorem dX12_goRound_40 : decode cX12_goRound 40 = .ok (.iload 5, 2) := by decide +kernel
theorem dX12_goRound_42 : decode cX12_goRound 42 = .ok (.ifCond .eq 23, 3) := by decide +kernel
theorem dX12_goRound_45 : decode cX12_goRound 45 = .ok (.aload_n 0, 1) := by decide +kernel
theorem dX12_goRound_46 : decode cX12_goRound 46 = .ok (.getfield 39, 3) := by decide +kernel
theorem dX12_goRound_49 : decode cX12_goRound 49 = .ok (.iload_n 2, 1) := by decide +kernel
theorem dX12_goRound_50 : decode cX12_goRound 50 = .ok (.iaload, 1) := by decide +kernel
theorem dX12_goRound_51 : decode cX12_goRound 51 = .ok (.aload_n 0, 1) := by decide +kernel
theorem dX12_goRound_52 : decode cX12_goRound 52 = .ok (.getfield 39, 3) := by decide +kernel
theorem dX12_goRound_55 : decode cX12_goRound 55 = .ok (.iload_n 2, 1) := by decide +kernel
theorem dX12_goRound_56 : decode cX12_goRound 56 = .ok (.iload_n 3, 1) := by decide +kernel
theorem dX12_goRound_57 : decode cX12_goRound 57 = .ok (.iadd, 1) := by decide +kernel
theorem dX12_goRound_58 : decode cX12_goRound 58 = .ok (.iconst 1, 1) := by decide +kernel
theorem dX12_goRound_59 : decode cX12_goRound 59 = .ok (.isub, 1) := by decide +kernel
theorem dX12_goRound_60 : decode cX12_goRound 60 = .ok (.iaload, 1) := by decide +kernel
theorem dX12_goRound_61 : decode cX12_goRound 61 = .ok (.iadd, 1) := by decide +kernel
theorem dX12_goRound_62 : decode cX12_goRound 62 = .ok (.goto 14, 3) := by decide +kernel
theorem dX12_goRound_65 : decode cX12_goRound 65 = .ok (.iconst 2, 1) := by decide +kernel
theorem dX12_goRound_66 : decode cX12_goRound 66 = .ok (.aload_n 0, 1) := by decide +kernel
theorem dX12_goRound_67 : decode cX12_goRound 67 = .ok (.getfield 39, 3) := by decide +kernel
theorem dX12_goRound_70 : decode cX12_goRound 70 = .ok (.iload_n 2, 1) := by decide +kernel
theorem dX12_goRound_71 : decode cX12_goRound 71 = .ok (.iload 4, 2) := by decide +kernel
theorem dX12_goRound_73 : decode cX12_goRound 73 = .ok (.iadd, 1) := by decide +kernel
theorem dX12_goRound_74 : decode cX12_goRound 74 = .ok (.iaload, 1) := by decide +kernel
theorem dX12_goRound_75 : decode cX12_goRound 75 = .ok (.imul, 1) := by decide +kernel
theorem dX12_goRound_76 : decode cX12_goRound 76 = .ok (.istore 6, 2) := by decide +kernel
theorem dX12_goRound_78 : decode cX12_goRound 78 = .ok (.iload 5, 2) := by decide +kernel
theorem dX12_goRound_80 : decode cX12_goRound 80 = .ok (.ifCond .eq 23, 3) := by decide +kernel
theorem dX12_goRound_83 : decode cX12_goRound 83 = .ok (.aload_n 0, 1) := by decide +kernel
theorem dX12_goRound_84 : decode cX12_goRound 84 = .ok (.getfield 42, 3) := by decide +kernel
theorem dX12_goRound_87 : decode cX12_goRound 87 = .ok (.iload_n 2, 1) := by decide +kernel
theorem dX12_goRound_88 : decode cX12_goRound 88 = .ok (.iaload, 1) := by decide +kernel
theorem dX12_goRound_89 : decode cX12_goRound 89 = .ok (.aload_n 0, 1) := by decide +kernel
theorem dX12_goRound_90 : decode cX12_goRound 90 = .ok (.getfield 42, 3) := by decide +kernel
theorem dX12_goRound_93 : decode cX12_goRound 93 = .ok (.iload_n 2, 1) := by decide +kernel
theorem dX12_goRound_94 : decode cX12_goRound 94 = .ok (.iload_n 3, 1) := by decide +kernel
theorem dX12_goRound_95 : decode cX12_goRound 95 = .ok (.iadd, 1) := by decide +kernel
theorem dX12_goRound_96 : decode cX12_goRound 96 = .ok (.iconst 1, 1) := by decide +kernel
theorem dX12_goRound_97 : decode cX12_goRound 97 = .ok (.isub, 1) := by decide +kernel
theorem dX12_goRound_98 : decode cX12_goRound 98 = .ok (.iaload, 1) := by decide +kernel
theorem dX12_goRound_99 : decode cX12_goRound 99 = .ok (.iadd, 1) := by decide +kernel
theorem dX12_goRound_100 : decode cX12_goRound 100 = .ok (.goto 14, 3) := by decide +kernel
theorem dX12_goRound_103 : decode cX12_goRound 103 = .ok (.iconst 2, 1) := by decide +kernel
theorem dX12_goRound_104 : decode cX12_goRound 104 = .ok (.aload_n 0, 1) := by decide +kernel
theorem dX12_goRound_105 : decode cX12_goRound 105 = .ok (.getfield 42, 3) := by decide +kernel
theorem dX12_goRound_108 : decode cX12_goRound 108 = .ok (.iload_n 2, 1) := by decide +kernel
theorem dX12_goRound_109 : decode cX12_goRound 109 = .ok (.iload 4, 2) := by decide +kernel
theorem dX12_goRound_111 : decode cX12_goRound 111 = .ok (.iadd, 1) := by decide +kernel
theorem dX12_goRound_112 : decode cX12_goRound 112 = .ok (.iaload, 1) := by decide +kernel
theorem dX12_goRound_113 : decode cX12_goRound 113 = .ok (.imul, 1) := by decide +kernel
theorem dX12_goRound_114 : decode cX12_goRound 114 = .ok (.istore 7, 2) := by decide +kernel
theorem dX12_goRound_116 : decode cX12_goRound 116 = .ok (.iload 5, 2) := by decide +kernel
theorem dX12_goRound_118 : decode cX12_goRound 118 = .ok (.ifCond .eq 7, 3) := by decide +kernel
theorem dX12_goRound_121 : decode cX12_goRound 121 = .ok (.iconst 0, 1) := by decide +kernel
theorem dX12_goRound_122 : decode cX12_goRound 122 = .ok (.goto 7, 3) := by decide +kernel
theorem dX12_goRound_125 : decode cX12_goRound 125 = .ok (.iload 4, 2) := by decide +kernel
theorem dX12_goRound_127 : decode cX12_goRound 127 = .ok (.iconst 1, 1) := by decide +kernel
theorem dX12_goRound_128 : decode cX12_goRound 128 = .ok (.iadd, 1) := by decide +kernel
theorem dX12_goRound_129 : decode cX12_goRound 129 = .ok (.istore 8, 2) := by decide +kernel
theorem dX12_goRound_131 : decode cX12_goRound 131 = .ok (.iload 5, 2) := by decide +kernel
theorem dX12_goRound_133 : decode cX12_goRound 133 = .ok (.ifCond .eq 7, 3) := by decide +kernel
theorem dX12_goRound_136 : decode cX12_goRound 136 = .ok (.iload_n 3, 1) := by decide +kernel
theorem dX12_goRound_137 : decode cX12_goRound 137 = .ok (.goto 9, 3) := by decide +kernel
theorem dX12_goRound_140 : decode cX12_goRound 140 = .ok (.iload 4, 2) := by decide +kernel
theorem dX12_goRound_142 : decode cX12_goRound 142 = .ok (.iload_n 3, 1) := by decide +kernel
theorem dX12_goRound_143 : decode cX12_goRound 143 = .ok (.iadd, 1) := by decide +kernel
theorem dX12_goRound_144 : decode cX12_goRound 144 = .ok (.iconst 1, 1) := by decide +kernel
theorem dX12_goRound_145 : decode cX12_goRound 145 = .ok (.iadd, 1) := by decide +kernel
theorem dX12_goRound_146 : decode cX12_goRound 146 = .ok (.istore 9, 2) := by decide +kernel
theorem dX12_goRound_148 : decode cX12_goRound 148 = .ok (.iload 8, 2) := by decide +kernel
theorem dX12_goRound_150 : decode cX12_goRound 150 = .ok (.iload 9, 2) := by decide +kernel
theorem dX12_goRound_152 : decode cX12_goRound 152 = .ok (.if_icmp .ge 219, 3) := by decide +kernel
theorem dX12_goRound_155 : decode cX12_goRound 155 = .ok (.iload_n 2, 1) := by decide +kernel
theorem dX12_goRound_156 : decode cX12_goRound 156 = .ok (.iload 8, 2) := by decide +kernel
theorem dX12_goRound_158 : decode cX12_goRound 158 = .ok (.iload_n 3, 1) := by decide +kernel
theorem dX12_goRound_159 : decode cX12_goRound 159 = .ok (.irem, 1) := by decide +kernel
theorem dX12_goRound_160 : decode cX12_goRound 160 = .ok (.iadd, 1) := by decide +kernel
theorem dX12_goRound_161 : decode cX12_goRound 161 = .ok (.istore 10, 2) := by decide +kernel
theorem dX12_goRound_163 : decode cX12_goRound 163 = .ok (.iload_n 2, 1) := by decide +kernel
theorem dX12_goRound_164 : decode cX12_goRound 164 = .ok (.iload 8, 2) := by decide +kernel
theorem dX12_goRound_166 : decode cX12_goRound 166 = .ok (.iconst 1, 1) := by decide +kernel
theorem dX12_goRound_167 : decode cX12_goRound 167 = .ok (.iadd, 1) := by decide +kernel
theorem dX12_goRound_168 : decode cX12_goRound 168 = .ok (.iload_n 3, 1) := by decide +kernel
theorem dX12_goRound_169 : decode cX12_goRound 169 = .ok (.irem, 1) := by decide +kernel
theorem dX12_goRound_170 : decode cX12_goRound 170 = .ok (.iadd, 1) := by decide +kernel
theorem dX12_goRound_171 : decode cX12_goRound 171 = .ok (.istore 11, 2) := by decide +kernel
theorem dX12_goRound_173 : decode cX12_goRound 173 = .ok (.aload_n 0, 1) := by decide +kernel
theorem dX12_goRound_174 : decode cX12_goRound 174 = .ok (.getfield 45, 3) := by decide +kernel
theorem dX12_goRound_177 : decode cX12_goRound 177 = .ok (.iload 10, 2) := by decide +kernel
theorem dX12_goRound_179 : decode cX12_goRound 179 = .ok (.baload, 1) := by decide +kernel
theorem dX12_goRound_180 : decode cX12_goRound 180 = .ok (.ifCond .ne 7, 3) := by decide +kernel
theorem dX12_goRound_183 : decode cX12_goRound 183 = .ok (.iconst 1, 1) := by decide +kernel
theorem dX12_goRound_184 : decode cX12_goRound 184 = .ok (.goto 4, 3) := by decide +kernel
theorem dX12_goRound_187 : decode cX12_goRound 187 = .ok (.iconst 0, 1) := by decide +kernel
theorem dX12_goRound_188 : decode cX12_goRound 188 = .ok (.istore 12, 2) := by decide +kernel
theorem dX12_goRound_190 : decode cX12_goRound 190 = .ok (.iload 12, 2) := by decide +kernel
theorem dX12_goRound_192 : decode cX12_goRound 192 = .ok (.ifCond .ne 15, 3) := by decide +kernel
theorem dX12_goRound_195 : decode cX12_goRound 195 = .ok (.iconst 2, 1) := by decide +kernel
theorem dX12_goRound_196 : decode cX12_goRound 196 = .ok (.aload_n 0, 1) := by decide +kernel
theorem dX12_goRound_197 : decode cX12_goRound 197 = .ok (.getfield 39, 3) := by decide +kernel
theorem dX12_goRound_200 : decode cX12_goRound 200 = .ok (.iload 10, 2) := by decide +kernel
theorem dX12_goRound_202 : decode cX12_goRound 202 = .ok (.iaload, 1) := by decide +kernel
theorem dX12_goRound_203 : decode cX12_goRound 203 = .ok (.imul, 1) := by decide +kernel
theorem dX12_goRound_204 : decode cX12_goRound 204 = .ok (.goto 40, 3) := by decide +kernel
theorem dX12_goRound_207 : decode cX12_goRound 207 = .ok (.aload_n 0, 1) := by decide +kernel
theorem dX12_goRound_208 : decode cX12_goRound 208 = .ok (.getfield 45, 3) := by decide +kernel
theorem dX12_goRound_211 : decode cX12_goRound 211 = .ok (.iload 11, 2) := by decide +kernel
theorem dX12_goRound_213 : decode cX12_goRound 213 = .ok (.baload, 1) := by decide +kernel
theorem dX12_goRound_214 : decode cX12_goRound 214 = .ok (.ifCond .eq 15, 3) := by decide +kernel
theorem dX12_goRound_217 : decode cX12_goRound 217 = .ok (.iconst 2, 1) := by decide +kernel
theorem dX12_goRound_218 : decode cX12_goRound 218 = .ok (.aload_n 0, 1) := by decide +kernel
theorem dX12_goRound_219 : decode cX12_goRound 219 = .ok (.getfield 39, 3) := by decide +kernel
theorem dX12_goRound_222 : decode cX12_goRound 222 = .ok (.iload 11, 2) := by decide +kernel
theorem dX12_goRound_224 : decode cX12_goRound 224 = .ok (.iaload, 1) := by decide +kernel
theorem dX12_goRound_225 : decode cX12_goRound 225 = .ok (.imul, 1) := by decide +kernel
theorem dX12_goRound_226 : decode cX12_goRound 226 = .ok (.goto 18, 3) := by decide +kernel
theorem dX12_goRound_229 : decode cX12_goRound 229 = .ok (.aload_n 0, 1) := by decide +kernel
theorem dX12_goRound_230 : decode cX12_goRound 230 = .ok (.getfield 39, 3) := by decide +kernel
theorem dX12_goRound_233 : decode cX12_goRound 233 = .ok (.iload 10, 2) := by decide +kernel
theorem dX12_goRound_235 : decode cX12_goRound 235 = .ok (.iaload, 1) := by decide +kernel
theorem dX12_goRound_236 : decode cX12_goRound 236 = .ok (.aload_n 0, 1) := by decide +kernel
theorem dX12_goRound_237 : decode cX12_goRound 237 = .ok (.getfield 39, 3) := by decide +kernel
theorem dX12_goRound_240 : decode cX12_goRound 240 = .ok (.iload 11, 2) := by decide +kernel
theorem dX12_goRound_242 : decode cX12_goRound 242 = .ok (.iaload, 1) := by decide +kernel
theorem dX12_goRound_243 : decode cX12_goRound 243 = .ok (.iadd, 1) := by decide +kernel
theorem dX12_goRound_244 : decode cX12_goRound 244 = .ok (.istore 13, 2) := by decide +kernel
theorem dX12_goRound_246 : decode cX12_goRound 246 = .ok (.iload 12, 2) := by decide +kernel
theorem dX12_goRound_248 : decode cX12_goRound 248 = .ok (.ifCond .ne 15, 3) := by decide +kernel
theorem dX12_goRound_251 : decode cX12_goRound 251 = .ok (.iconst 2, 1) := by decide +kernel
theorem dX12_goRound_252 : decode cX12_goRound 252 = .ok (.aload_n 0, 1) := by decide +kernel
theorem dX12_goRound_253 : decode cX12_goRound 253 = .ok (.getfield 42, 3) := by decide +kernel
theorem dX12_goRound_256 : decode cX12_goRound 256 = .ok (.iload 10, 2) := by decide +kernel
theorem dX12_goRound_258 : decode cX12_goRound 258 = .ok (.iaload, 1) := by decide +kernel
theorem dX12_goRound_259 : decode cX12_goRound 259 = .ok (.imul, 1) := by decide +kernel
theorem dX12_goRound_260 : decode cX12_goRound 260 = .ok (.goto 40, 3) := by decide +kernel
theorem dX12_goRound_263 : decode cX12_goRound 263 = .ok (.aload_n 0, 1) := by decide +kernel
theorem dX12_goRound_264 : decode cX12_goRound 264 = .ok (.getfield 45, 3) := by decide +kernel
theorem dX12_goRound_267 : decode cX12_goRound 267 = .ok (.iload 11, 2) := by decide +kernel
theorem dX12_goRound_269 : decode cX12_goRound 269 = .ok (.baload, 1) := by decide +kernel
theorem dX12_goRound_270 : decode cX12_goRound 270 = .ok (.ifCond .eq 15, 3) := by decide +kernel
theorem dX12_goRound_273 : decode cX12_goRound 273 = .ok (.iconst 2, 1) := by decide +kernel
theorem dX12_goRound_274 : decode cX12_goRound 274 = .ok (.aload_n 0, 1) := by decide +kernel
theorem dX12_goRound_275 : decode cX12_goRound 275 = .ok (.getfield 42, 3) := by decide +kernel
theorem dX12_goRound_278 : decode cX12_goRound 278 = .ok (.iload 11, 2) := by decide +kernel
theorem dX12_goRound_280 : decode cX12_goRound 280 = .ok (.iaload, 1) := by decide +kernel
theorem dX12_goRound_281 : decode cX12_goRound 281 = .ok (.imul, 1) := by decide +kernel
theorem dX12_goRound_282 : decode cX12_goRound 282 = .ok (.goto 18, 3) := by decide +kernel
theorem dX12_goRound_285 : decode cX12_goRound 285 = .ok (.aload_n 0, 1) := by decide +kernel
theorem dX12_goRound_286 : decode cX12_goRound 286 = .ok (.getfield 42, 3) := by decide +kernel
theorem dX12_goRound_289 : decode cX12_goRound 289 = .ok (.iload 10, 2) := by decide +kernel
theorem dX12_goRound_291 : decode cX12_goRound 291 = .ok (.iaload, 1) := by decide +kernel
theorem dX12_goRound_292 : decode cX12_goRound 292 = .ok (.aload_n 0, 1) := by decide +kernel
theorem dX12_goRound_293 : decode cX12_goRound 293 = .ok (.getfield 42, 3) := by decide +kernel
theorem dX12_goRound_296 : decode cX12_goRound 296 = .ok (.iload 11, 2) := by decide +kernel
theorem dX12_goRound_298 : decode cX12_goRound 298 = .ok (.iaload, 1) := by decide +kernel
theorem dX12_goRound_299 : decode cX12_goRound 299 = .ok (.iadd, 1) := by decide +kernel
theorem dX12_goRound_300 : decode cX12_goRound 300 = .ok (.istore 14, 2) := by decide +kernel
theorem dX12_goRound_302 : decode cX12_goRound 302 = .ok (.aload_n 0, 1) := by decide +kernel
theorem dX12_goRound_303 : decode cX12_goRound 303 = .ok (.iload_n 1, 1) := by decide +kernel
theorem dX12_goRound_304 : decode cX12_goRound 304 = .ok (.iload 12, 2) := by decide +kernel
theorem dX12_goRound_306 : decode cX12_goRound 306 = .ok (.iload 6, 2) := by decide +kernel
theorem dX12_goRound_308 : decode cX12_goRound 308 = .ok (.iload 7, 2) := by decide +kernel
theorem dX12_goRound_310 : decode cX12_goRound 310 = .ok (.iconst 2, 1) := by decide +kernel
theorem dX12_goRound_311 : decode cX12_goRound 311 = .ok (.aload_n 0, 1) := by decide +kernel
theorem dX12_goRound_312 : decode cX12_goRound 312 = .ok (.getfield 39, 3) := by decide +kernel
theorem dX12_goRound_315 : decode cX12_goRound 315 = .ok (.iload 10, 2) := by decide +kernel
theorem dX12_goRound_317 : decode cX12_goRound 317 = .ok (.iaload, 1) := by decide +kernel
theorem dX12_goRound_318 : decode cX12_goRound 318 = .ok (.imul, 1) := by decide +kernel
theorem dX12_goRound_319 : decode cX12_goRound 319 = .ok (.iconst 2, 1) := by decide +kernel
theorem dX12_goRound_320 : decode cX12_goRound 320 = .ok (.aload_n 0, 1) := by decide +kernel
theorem dX12_goRound_321 : decode cX12_goRound 321 = .ok (.getfield 42, 3) := by decide +kernel
theorem dX12_goRound_324 : decode cX12_goRound 324 = .ok (.iload 10, 2) := by decide +kernel
theorem dX12_goRound_326 : decode cX12_goRound 326 = .ok (.iaload, 1) := by decide +kernel
theorem dX12_goRound_327 : decode cX12_goRound 327 = .ok (.imul, 1) := by decide +kernel
theorem dX12_goRound_328 : decode cX12_goRound 328 = .ok (.iload 13, 2) := by decide +kernel
theorem dX12_goRound_330 : decode cX12_goRound 330 = .ok (.iload 14, 2) := by decide +kernel
theorem dX12_goRound_332 : decode cX12_goRound 332 = .ok (.invokevirtual 248, 3) := by decide +kernel
theorem dX12_goRound_335 : decode cX12_goRound 335 = .ok (.iload 13, 2) := by decide +kernel
theorem dX12_goRound_337 : decode cX12_goRound 337 = .ok (.istore 6, 2) := by decide +kernel
theorem dX12_goRound_339 : decode cX12_goRound 339 = .ok (.iload 14, 2) := by decide +kernel
theorem dX12_goRound_341 : decode cX12_goRound 341 = .ok (.istore 7, 2) := by decide +kernel
theorem dX12_goRound_343 : decode cX12_goRound 343 = .ok (.iload 8, 2) := by decide +kernel
theorem dX12_goRound_345 : decode cX12_goRound 345 = .ok (.iload 12, 2) := by decide +kernel
theorem dX12_goRound_347 : decode cX12_goRound 347 = .ok (.ifCond .eq 17, 3) := by decide +kernel
theorem dX12_goRound_350 : decode cX12_goRound 350 = .ok (.aload_n 0, 1) := by decide +kernel
theorem dX12_goRound_351 : decode cX12_goRound 351 = .ok (.getfield 45, 3) := by decide +kernel
theorem dX12_goRound_354 : decode cX12_goRound 354 = .ok (.iload 11, 2) := by decide +kernel
theorem dX12_goRound_356 : decode cX12_goRound 356 = .ok (.baload, 1) := by decide +kernel
theorem dX12_goRound_357 : decode cX12_goRound 357 = .ok (.ifCond .eq 7, 3) := by decide +kernel
theorem dX12_goRound_360 : decode cX12_goRound 360 = .ok (.iconst 2, 1) := by decide +kernel
theorem dX12_goRound_361 : decode cX12_goRound 361 = .ok (.goto 4, 3) := by decide +kernel
theorem dX12_goRound_364 : decode cX12_goRound 364 = .ok (.iconst 1, 1) := by decide +kernel
theorem dX12_goRound_365 : decode cX12_goRound 365 = .ok (.iadd, 1) := by decide +kernel
theorem dX12_goRound_366 : decode cX12_goRound 366 = .ok (.istore 8, 2) := by decide +kernel
theorem dX12_goRound_368 : decode cX12_goRound 368 = .ok (.goto (-220), 3) := by decide +kernel
theorem dX12_goRound_371 : decode cX12_goRound 371 = .ok (.return_, 1) := by decide +kernel
theorem dX12_run_0 : decode cX12_run 0 = .ok (.aload_n 0, 1) := by decide +kernel
theorem dX12_run_1 : decode cX12_run 1 = .ok (.iconst 0, 1) := by decide +kernel
theorem dX12_run_2 : decode cX12_run 2 = .ok (.putfield 96, 3) := by decide +kernel
theorem dX12_run_5 : decode cX12_run 5 = .ok (.aload_n 0, 1) := by decide +kernel
theorem dX12_run_6 : decode cX12_run 6 = .ok (.invokevirtual 145, 3) := by decide +kernel
theorem dX12_run_9 : decode cX12_run 9 = .ok (.aload_n 0, 1) := by decide +kernel
theorem dX12_run_10 : decode cX12_run 10 = .ok (.iload_n 1, 1) := by decide +kernel
theorem dX12_run_11 : decode cX12_run 11 = .ok (.invokevirtual 239, 3) := by decide +kernel
theorem dX12_run_14 : decode cX12_run 14 = .ok (.ifCond .ne 5, 3) := by decide +kernel
theorem dX12_run_17 : decode cX12_run 17 = .ok (.iconst (-1), 1) := by decide +kernel
theorem dX12_run_18 : decode cX12_run 18 = .ok (.ireturn, 1) := by decide +kernel
theorem dX12_run_19 : decode cX12_run 19 = .ok (.aload_n 0, 1) := by decide +kernel
theorem dX12_run_20 : decode cX12_run 20 = .ok (.iconst 0, 1) := by decide +kernel
theorem dX12_run_21 : decode cX12_run 21 = .ok (.putfield 213, 3) := by decide +kernel
theorem dX12_run_24 : decode cX12_run 24 = .ok (.aload_n 0, 1) := by decide +kernel
theorem dX12_run_25 : decode cX12_run 25 = .ok (.iload_n 1, 1) := by decide +kernel
theorem dX12_run_26 : decode cX12_run 26 = .ok (.invokevirtual 245, 3) := by decide +kernel
theorem dX12_run_29 : decode cX12_run 29 = .ok (.istore_n 2, 1) := by decide +kernel
theorem dX12_run_30 : decode cX12_run 30 = .ok (.iload_n 2, 1) := by decide +kernel
theorem dX12_run_31 : decode cX12_run 31 = .ok (.ifCond .eq 17, 3) := by decide +kernel
theorem dX12_run_34 : decode cX12_run 34 = .ok (.aload_n 0, 1) := by decide +kernel
theorem dX12_run_35 : decode cX12_run 35 = .ok (.getfield 213, 3) := by decide +kernel
theorem dX12_run_38 : decode cX12_run 38 = .ok (.ifCond .le 10, 3) := by decide +kernel
theorem dX12_run_41 : decode cX12_run 41 = .ok (.aload_n 0, 1) := by decide +kernel
theorem dX12_run_42 : decode cX12_run 42 = .ok (.invokevirtual 252, 3) := by decide +kernel
theorem dX12_run_45 : decode cX12_run 45 = .ok (.goto (-15), 3) := by decide +kernel
theorem dX12_run_48 : decode cX12_run 48 = .ok (.iconst 0, 1) := by decide +kernel
theorem dX12_run_49 : decode cX12_run 49 = .ok (.istore_n 3, 1) := by decide +kernel
theorem dX12_run_50 : decode cX12_run 50 = .ok (.iconst 0, 1) := by decide +kernel
theorem dX12_run_51 : decode cX12_run 51 = .ok (.istore 4, 2) := by decide +kernel
theorem dX12_run_53 : decode cX12_run 53 = .ok (.iload 4, 2) := by decide +kernel
theorem dX12_run_55 : decode cX12_run 55 = .ok (.aload_n 0, 1) := by decide +kernel
theorem dX12_run_56 : decode cX12_run 56 = .ok (.getfield 139, 3) := by decide +kernel
theorem dX12_run_59 : decode cX12_run 59 = .ok (.if_icmp .ge 47, 3) := by decide +kernel
theorem dX12_run_62 : decode cX12_run 62 = .ok (.aload_n 0, 1) := by decide +kernel
theorem dX12_run_63 : decode cX12_run 63 = .ok (.getfield 48, 3) := by decide +kernel
theorem dX12_run_66 : decode cX12_run 66 = .ok (.iload 4, 2) := by decide +kernel
theorem dX12_run_68 : decode cX12_run 68 = .ok (.iaload, 1) := by decide +kernel
theorem dX12_run_69 : decode cX12_run 69 = .ok (.iconst 1, 1) := by decide +kernel
theorem dX12_run_70 : decode cX12_run 70 = .ok (.iadd, 1) := by decide +kernel
theorem dX12_run_71 : decode cX12_run 71 = .ok (.iload_n 3, 1) := by decide +kernel
theorem dX12_run_72 : decode cX12_run 72 = .ok (.isub, 1) := by decide +kernel
theorem dX12_run_73 : decode cX12_run 73 = .ok (.istore 5, 2) := by decide +kernel
theorem dX12_run_75 : decode cX12_run 75 = .ok (.iload 5, 2) := by decide +kernel
theorem dX12_run_77 : decode cX12_run 77 = .ok (.iconst 1, 1) := by decide +kernel
theorem dX12_run_78 : decode cX12_run 78 = .ok (.if_icmp .le 12, 3) := by decide +kernel
theorem dX12_run_81 : decode cX12_run 81 = .ok (.aload_n 0, 1) := by decide +kernel
theorem dX12_run_82 : decode cX12_run 82 = .ok (.iload 4, 2) := by decide +kernel
theorem dX12_run_84 : decode cX12_run 84 = .ok (.iload_n 3, 1) := by decide +kernel
theorem dX12_run_85 : decode cX12_run 85 = .ok (.iload 5, 2) := by decide +kernel
theorem dX12_run_87 : decode cX12_run 87 = .ok (.invokevirtual 255, 3) := by decide +kernel
theorem dX12_run_90 : decode cX12_run 90 = .ok (.aload_n 0, 1) := by decide +kernel
theorem dX12_run_91 : decode cX12_run 91 = .ok (.getfield 48, 3) := by decide +kernel
theorem dX12_run_94 : decode cX12_run 94 = .ok (.iload 4, 2) := by decide +kernel
theorem dX12_run_96 : decode cX12_run 96 = .ok (.iaload, 1) := by decide +kernel
theorem dX12_run_97 : decode cX12_run 97 = .ok (.iconst 1, 1) := by decide +kernel
theorem dX12_run_98 : decode cX12_run 98 = .ok (.iadd, 1) := by decide +kernel
theorem dX12_run_99 : decode cX12_run 99 = .ok (.istore_n 3, 1) := by decide +kernel
theorem dX12_run_100 : decode cX12_run 100 = .ok (.iinc 4 1, 3) := by decide +kernel
theorem dX12_run_103 : decode cX12_run 103 = .ok (.goto (-50), 3) := by decide +kernel
theorem dX12_run_106 : decode cX12_run 106 = .ok (.aload_n 0, 1) := by decide +kernel
theorem dX12_run_107 : decode cX12_run 107 = .ok (.getfield 142, 3) := by decide +kernel
theorem dX12_run_110 : decode cX12_run 110 = .ok (.ireturn, 1) := by decide +kernel
theorem dX12_piece__0 : decode cX12_piece_ 0 = .ok (.aload_n 0, 1) := by decide +kernel
theorem dX12_piece__1 : decode cX12_piece_ 1 = .ok (.iload_n 1, 1) := by decide +kernel
theorem dX12_piece__2 : decode cX12_piece_ 2 = .ok (.i2l, 1) := by decide +kernel
theorem dX12_piece__3 : decode cX12_piece_ 3 = .ok (.lconst 0, 1) := by decide +kernel
theorem dX12_piece__4 : decode cX12_piece_ 4 = .ok (.aload_n 0, 1) := by decide +kernel
theorem dX12_piece__5 : decode cX12_piece_ 5 = .ok (.getfield 142, 3) := by decide +kernel
theorem dX12_piece__8 : decode cX12_piece_ 8 = .ok (.iconst 1, 1) := by decide +kernel
theorem dX12_piece__9 : decode cX12_piece_ 9 = .ok (.isub, 1) := by decide +kernel
theorem dX12_piece__10 : decode cX12_piece_ 10 = .ok (.i2l, 1) := by decide +kernel
theorem dX12_piece__11 : decode cX12_piece_ 11 = .ok (.invokestatic 102, 3) := by decide +kernel
theorem dX12_piece__14 : decode cX12_piece_ 14 = .ok (.ifCond .eq 19, 3) := by decide +kernel
theorem dX12_piece__17 : decode cX12_piece_ 17 = .ok (.iload_n 2, 1) := by decide +kernel
theorem dX12_piece__18 : decode cX12_piece_ 18 = .ok (.i2l, 1) := by decide +kernel
theorem dX12_piece__19 : decode cX12_piece_ 19 = .ok (.lconst 0, 1) := by decide +kernel
theorem dX12_piece__20 : decode cX12_piece_ 20 = .ok (.ldc2_w 259, 3) := by decide +kernel
theorem dX12_piece__23 : decode cX12_piece_ 23 = .ok (.invokestatic 102, 3) := by decide +kernel
theorem dX12_piece__26 : decode cX12_piece_ 26 = .ok (.ifCond .eq 7, 3) := by decide +kernel
theorem dX12_piece__29 : decode cX12_piece_ 29 = .ok (.iconst 0, 1) := by decide +kernel
theorem dX12_piece__30 : decode cX12_piece_ 30 = .ok (.goto 4, 3) := by decide +kernel
theorem dX12_piece__33 : decode cX12_piece_ 33 = .ok (.iconst 1, 1) := by decide +kernel
theorem dX12_piece__34 : decode cX12_piece_ 34 = .ok (.putfield 96, 3) := by decide +kernel
theorem dX12_piece__37 : decode cX12_piece_ 37 = .ok (.aload_n 0, 1) := by decide +kernel
theorem dX12_piece__38 : decode cX12_piece_ 38 = .ok (.getfield 96, 3) := by decide +kernel
theorem dX12_piece__41 : decode cX12_piece_ 41 = .ok (.ifCond .le 7, 3) := by decide +kernel
theorem dX12_piece__44 : decode cX12_piece_ 44 = .ok (.iconst 0, 1) := by decide +kernel
theorem dX12_piece__45 : decode cX12_piece_ 45 = .ok (.goto 14, 3) := by decide +kernel
theorem dX12_piece__48 : decode cX12_piece_ 48 = .ok (.aload_n 0, 1) := by decide +kernel
theorem dX12_piece__49 : decode cX12_piece_ 49 = .ok (.getfield 87, 3) := by decide +kernel
theorem dX12_piece__52 : decode cX12_piece_ 52 = .ok (.bipush 8, 2) := by decide +kernel
theorem dX12_piece__54 : decode cX12_piece_ 54 = .ok (.iload_n 1, 1) := by decide +kernel
theorem dX12_piece__55 : decode cX12_piece_ 55 = .ok (.imul, 1) := by decide +kernel
theorem dX12_piece__56 : decode cX12_piece_ 56 = .ok (.iload_n 2, 1) := by decide +kernel
theorem dX12_piece__57 : decode cX12_piece_ 57 = .ok (.iadd, 1) := by decide +kernel
theorem dX12_piece__58 : decode cX12_piece_ 58 = .ok (.iaload, 1) := by decide +kernel
theorem dX12_piece__59 : decode cX12_piece_ 59 = .ok (.ireturn, 1) := by decide +kernel
theorem dX12_told_0 : decode cX12_told 0 = .ok (.aload_n 0, 1) := by decide +kernel
theorem dX12_told_1 : decode cX12_told 1 = .ok (.iload_n 1, 1) := by decide +kernel
theorem dX12_told_2 : decode cX12_told 2 = .ok (.iconst (-1), 1) := by decide +kernel
theorem dX12_told_3 : decode cX12_told 3 = .ok (.if_icmp .eq 29, 3) := by decide +kernel
theorem dX12_told_6 : decode cX12_told 6 = .ok (.iload_n 1, 1) := by decide +kernel
theorem dX12_told_7 : decode cX12_told 7 = .ok (.i2l, 1) := by decide +kernel
theorem dX12_told_8 : decode cX12_told 8 = .ok (.lconst 0, 1) := by decide +kernel
theorem dX12_told_9 : decode cX12_told 9 = .ok (.aload_n 0, 1) := by decide +kernel
theorem dX12_told_10 : decode cX12_told 10 = .ok (.getfield 133, 3) := by decide +kernel
theorem dX12_told_13 : decode cX12_told 13 = .ok (.iconst 1, 1) := by decide +kernel
theorem dX12_told_14 : decode cX12_told 14 = .ok (.isub, 1) := by decide +kernel
theorem dX12_told_15 : decode cX12_told 15 = .ok (.i2l, 1) := by decide +kernel
theorem dX12_told_16 : decode cX12_told 16 = .ok (.invokestatic 102, 3) := by decide +kernel
theorem dX12_told_19 : decode cX12_told 19 = .ok (.ifCond .eq 17, 3) := by decide +kernel
theorem dX12_told_22 : decode cX12_told 22 = .ok (.iload_n 2, 1) := by decide +kernel
theorem dX12_told_23 : decode cX12_told 23 = .ok (.i2l, 1) := by decide +kernel
theorem dX12_told_24 : decode cX12_told 24 = .ok (.lconst 0, 1) := by decide +kernel
theorem dX12_told_25 : decode cX12_told 25 = .ok (.lconst 1, 1) := by decide +kernel
theorem dX12_told_26 : decode cX12_told 26 = .ok (.invokestatic 102, 3) := by decide +kernel
theorem dX12_told_29 : decode cX12_told 29 = .ok (.ifCond .eq 7, 3) := by decide +kernel
theorem dX12_told_32 : decode cX12_told 32 = .ok (.iconst 0, 1) := by decide +kernel
theorem dX12_told_33 : decode cX12_told 33 = .ok (.goto 4, 3) := by decide +kernel
theorem dX12_told_36 : decode cX12_told 36 = .ok (.iconst 1, 1) := by decide +kernel
theorem dX12_told_37 : decode cX12_told 37 = .ok (.putfield 96, 3) := by decide +kernel
theorem dX12_told_40 : decode cX12_told 40 = .ok (.aload_n 0, 1) := by decide +kernel
theorem dX12_told_41 : decode cX12_told 41 = .ok (.getfield 96, 3) := by decide +kernel
theorem dX12_told_44 : decode cX12_told 44 = .ok (.ifCond .le 7, 3) := by decide +kernel
theorem dX12_told_47 : decode cX12_told 47 = .ok (.iconst 0, 1) := by decide +kernel
theorem dX12_told_48 : decode cX12_told 48 = .ok (.goto 34, 3) := by decide +kernel
theorem dX12_told_51 : decode cX12_told 51 = .ok (.iload_n 1, 1) := by decide +kernel
theorem dX12_told_52 : decode cX12_told 52 = .ok (.iconst (-1), 1) := by decide +kernel
theorem dX12_told_53 : decode cX12_told 53 = .ok (.if_icmp .ne 10, 3) := by decide +kernel
theorem dX12_told_56 : decode cX12_told 56 = .ok (.aload_n 0, 1) := by decide +kernel
theorem dX12_told_57 : decode cX12_told 57 = .ok (.getfield 133, 3) := by decide +kernel
theorem dX12_told_60 : decode cX12_told 60 = .ok (.goto 22, 3) := by decide +kernel
theorem dX12_told_63 : decode cX12_told 63 = .ok (.iload_n 2, 1) := by decide +kernel
theorem dX12_told_64 : decode cX12_told 64 = .ok (.ifCond .ne 12, 3) := by decide +kernel
theorem dX12_told_67 : decode cX12_told 67 = .ok (.aload_n 0, 1) := by decide +kernel
theorem dX12_told_68 : decode cX12_told 68 = .ok (.getfield 33, 3) := by decide +kernel
theorem dX12_told_71 : decode cX12_told 71 = .ok (.iload_n 1, 1) := by decide +kernel
theorem dX12_told_72 : decode cX12_told 72 = .ok (.iaload, 1) := by decide +kernel
theorem dX12_told_73 : decode cX12_told 73 = .ok (.goto 9, 3) := by decide +kernel
theorem dX12_told_76 : decode cX12_told 76 = .ok (.aload_n 0, 1) := by decide +kernel
theorem dX12_told_77 : decode cX12_told 77 = .ok (.getfield 36, 3) := by decide +kernel
theorem dX12_told_80 : decode cX12_told 80 = .ok (.iload_n 1, 1) := by decide +kernel
theorem dX12_told_81 : decode cX12_told 81 = .ok (.iaload, 1) := by decide +kernel
theorem dX12_told_82 : decode cX12_told 82 = .ok (.ireturn, 1) := by decide +kernel
theorem dX12_mapBy_0 : decode cX12_mapBy 0 = .ok (.iload 4, 2) := by decide +kernel
theorem dX12_mapBy_2 : decode cX12_mapBy 2 = .ok (.ifCond .ne 31, 3) := by decide +kernel
theorem dX12_mapBy_5 : decode cX12_mapBy 5 = .ok (.iload 5, 2) := by decide +kernel
theorem dX12_mapBy_7 : decode cX12_mapBy 7 = .ok (.sipush 256, 3) := by decide +kernel
theorem dX12_mapBy_10 : decode cX12_mapBy 10 = .ok (.if_icmp .ge 21, 3) := by decide +kernel
theorem dX12_mapBy_13 : decode cX12_mapBy 13 = .ok (.aload_n 0, 1) := by decide +kernel
theorem dX12_mapBy_14 : decode cX12_mapBy 14 = .ok (.iload_n 1, 1) := by decide +kernel
theorem dX12_mapBy_15 : decode cX12_mapBy 15 = .ok (.lload_n 2, 1) := by decide +kernel
theorem dX12_mapBy_16 : decode cX12_mapBy 16 = .ok (.ldc2_w 261, 3) := by decide +kernel
theorem dX12_mapBy_19 : decode cX12_mapBy 19 = .ok (.ladd, 1) := by decide +kernel
theorem dX12_mapBy_20 : decode cX12_mapBy 20 = .ok (.iload 5, 2) := by decide +kernel
theorem dX12_mapBy_22 : decode cX12_mapBy 22 = .ok (.i2l, 1) := by decide +kernel
theorem dX12_mapBy_23 : decode cX12_mapBy 23 = .ok (.ladd, 1) := by decide +kernel
theorem dX12_mapBy_24 : decode cX12_mapBy 24 = .ok (.iconst 1, 1) := by decide +kernel
theorem dX12_mapBy_25 : decode cX12_mapBy 25 = .ok (.invokevirtual 120, 3) := by decide +kernel
theorem dX12_mapBy_28 : decode cX12_mapBy 28 = .ok (.goto 4, 3) := by decide +kernel
theorem dX12_mapBy_31 : decode cX12_mapBy 31 = .ok (.lconst 0, 1) := by decide +kernel
theorem dX12_mapBy_32 : decode cX12_mapBy 32 = .ok (.lreturn, 1) := by decide +kernel
theorem dX12_mapBy_33 : decode cX12_mapBy 33 = .ok (.iload 4, 2) := by decide +kernel
theorem dX12_mapBy_35 : decode cX12_mapBy 35 = .ok (.bipush 6, 2) := by decide +kernel
theorem dX12_mapBy_37 : decode cX12_mapBy 37 = .ok (.if_icmp .ne 71, 3) := by decide +kernel
theorem dX12_mapBy_40 : decode cX12_mapBy 40 = .ok (.aload_n 0, 1) := by decide +kernel
theorem dX12_mapBy_41 : decode cX12_mapBy 41 = .ok (.iload_n 1, 1) := by decide +kernel
theorem dX12_mapBy_42 : decode cX12_mapBy 42 = .ok (.lload_n 2, 1) := by decide +kernel
theorem dX12_mapBy_43 : decode cX12_mapBy 43 = .ok (.ldc2_w 261, 3) := by decide +kernel
theorem dX12_mapBy_46 : decode cX12_mapBy 46 = .ok (.ladd, 1) := by decide +kernel
theorem dX12_mapBy_47 : decode cX12_mapBy 47 = .ok (.invokevirtual 169, 3) := by decide +kernel
theorem dX12_mapBy_50 : decode cX12_mapBy 50 = .ok (.istore 6, 2) := by decide +kernel
theorem dX12_mapBy_52 : decode cX12_mapBy 52 = .ok (.aload_n 0, 1) := by decide +kernel
theorem dX12_mapBy_53 : decode cX12_mapBy 53 = .ok (.iload_n 1, 1) := by decide +kernel
theorem dX12_mapBy_54 : decode cX12_mapBy 54 = .ok (.lload_n 2, 1) := by decide +kernel
theorem dX12_mapBy_55 : decode cX12_mapBy 55 = .ok (.ldc2_w 100, 3) := by decide +kernel
theorem dX12_mapBy_58 : decode cX12_mapBy 58 = .ok (.ladd, 1) := by decide +kernel
theorem dX12_mapBy_59 : decode cX12_mapBy 59 = .ok (.invokevirtual 169, 3) := by decide +kernel
theorem dX12_mapBy_62 : decode cX12_mapBy 62 = .ok (.istore 7, 2) := by decide +kernel
theorem dX12_mapBy_64 : decode cX12_mapBy 64 = .ok (.iload 5, 2) := by decide +kernel
theorem dX12_mapBy_66 : decode cX12_mapBy 66 = .ok (.iload 6, 2) := by decide +kernel
theorem dX12_mapBy_68 : decode cX12_mapBy 68 = .ok (.if_icmp .lt 38, 3) := by decide +kernel
theorem dX12_mapBy_71 : decode cX12_mapBy 71 = .ok (.iload 5, 2) := by decide +kernel
theorem dX12_mapBy_73 : decode cX12_mapBy 73 = .ok (.iload 6, 2) := by decide +kernel
theorem dX12_mapBy_75 : decode cX12_mapBy 75 = .ok (.iload 7, 2) := by decide +kernel
theorem dX12_mapBy_77 : decode cX12_mapBy 77 = .ok (.iadd, 1) := by decide +kernel
theorem dX12_mapBy_78 : decode cX12_mapBy 78 = .ok (.if_icmp .ge 28, 3) := by decide +kernel
theorem dX12_mapBy_81 : decode cX12_mapBy 81 = .ok (.aload_n 0, 1) := by decide +kernel
theorem dX12_mapBy_82 : decode cX12_mapBy 82 = .ok (.iload_n 1, 1) := by decide +kernel
theorem dX12_mapBy_83 : decode cX12_mapBy 83 = .ok (.lload_n 2, 1) := by decide +kernel
theorem dX12_mapBy_84 : decode cX12_mapBy 84 = .ok (.ldc2_w 263, 3) := by decide +kernel
theorem dX12_mapBy_87 : decode cX12_mapBy 87 = .ok (.ladd, 1) := by decide +kernel
theorem dX12_mapBy_88 : decode cX12_mapBy 88 = .ok (.ldc2_w 181, 3) := by decide +kernel
theorem dX12_mapBy_91 : decode cX12_mapBy 91 = .ok (.iload 5, 2) := by decide +kernel
theorem dX12_mapBy_93 : decode cX12_mapBy 93 = .ok (.iload 6, 2) := by decide +kernel
theorem dX12_mapBy_95 : decode cX12_mapBy 95 = .ok (.isub, 1) := by decide +kernel
theorem dX12_mapBy_96 : decode cX12_mapBy 96 = .ok (.i2l, 1) := by decide +kernel
theorem dX12_mapBy_97 : decode cX12_mapBy 97 = .ok (.lmul, 1) := by decide +kernel
theorem dX12_mapBy_98 : decode cX12_mapBy 98 = .ok (.ladd, 1) := by decide +kernel
theorem dX12_mapBy_99 : decode cX12_mapBy 99 = .ok (.invokevirtual 169, 3) := by decide +kernel
theorem dX12_mapBy_102 : decode cX12_mapBy 102 = .ok (.i2l, 1) := by decide +kernel
theorem dX12_mapBy_103 : decode cX12_mapBy 103 = .ok (.goto 4, 3) := by decide +kernel
theorem dX12_mapBy_106 : decode cX12_mapBy 106 = .ok (.lconst 0, 1) := by decide +kernel
theorem dX12_mapBy_107 : decode cX12_mapBy 107 = .ok (.lreturn, 1) := by decide +kernel
theorem dX12_mapBy_108 : decode cX12_mapBy 108 = .ok (.iload 4, 2) := by decide +kernel
theorem dX12_mapBy_110 : decode cX12_mapBy 110 = .ok (.bipush 12, 2) := by decide +kernel
theorem dX12_mapBy_112 : decode cX12_mapBy 112 = .ok (.if_icmp .ne 140, 3) := by decide +kernel
theorem dX12_mapBy_115 : decode cX12_mapBy 115 = .ok (.aload_n 0, 1) := by decide +kernel
theorem dX12_mapBy_116 : decode cX12_mapBy 116 = .ok (.iload_n 1, 1) := by decide +kernel
theorem dX12_mapBy_117 : decode cX12_mapBy 117 = .ok (.lload_n 2, 1) := by decide +kernel
theorem dX12_mapBy_118 : decode cX12_mapBy 118 = .ok (.ldc2_w 265, 3) := by decide +kernel
theorem dX12_mapBy_121 : decode cX12_mapBy 121 = .ok (.ladd, 1) := by decide +kernel
theorem dX12_mapBy_122 : decode cX12_mapBy 122 = .ok (.iconst 4, 1) := by decide +kernel
theorem dX12_mapBy_123 : decode cX12_mapBy 123 = .ok (.invokevirtual 120, 3) := by decide +kernel
theorem dX12_mapBy_126 : decode cX12_mapBy 126 = .ok (.lstore 6, 2) := by decide +kernel
theorem dX12_mapBy_128 : decode cX12_mapBy 128 = .ok (.lconst 0, 1) := by decide +kernel
theorem dX12_mapBy_129 : decode cX12_mapBy 129 = .ok (.lstore 8, 2) := by decide +kernel
theorem dX12_mapBy_131 : decode cX12_mapBy 131 = .ok (.lload 8, 2) := by decide +kernel
theorem dX12_mapBy_133 : decode cX12_mapBy 133 = .ok (.lload 6, 2) := by decide +kernel
theorem dX12_mapBy_135 : decode cX12_mapBy 135 = .ok (.lcmp, 1) := by decide +kernel
theorem dX12_mapBy_136 : decode cX12_mapBy 136 = .ok (.ifCond .ge 114, 3) := by decide +kernel
theorem dX12_mapBy_139 : decode cX12_mapBy 139 = .ok (.aload_n 0, 1) := by decide +kernel
theorem dX12_mapBy_140 : decode cX12_mapBy 140 = .ok (.getfield 114, 3) := by decide +kernel
theorem dX12_mapBy_143 : decode cX12_mapBy 143 = .ok (.ifCond .ne 107, 3) := by decide +kernel
theorem dX12_mapBy_146 : decode cX12_mapBy 146 = .ok (.aload_n 0, 1) := by decide +kernel
theorem dX12_mapBy_147 : decode cX12_mapBy 147 = .ok (.iload_n 1, 1) := by decide +kernel
theorem dX12_mapBy_148 : decode cX12_mapBy 148 = .ok (.lload_n 2, 1) := by decide +kernel
theorem dX12_mapBy_149 : decode cX12_mapBy 149 = .ok (.ldc2_w 267, 3) := by decide +kernel
theorem dX12_mapBy_152 : decode cX12_mapBy 152 = .ok (.ladd, 1) := by decide +kernel
theorem dX12_mapBy_153 : decode cX12_mapBy 153 = .ok (.ldc2_w 265, 3) := by decide +kernel
theorem dX12_mapBy_156 : decode cX12_mapBy 156 = .ok (.lload 8, 2) := by decide +kernel
theorem dX12_mapBy_158 : decode cX12_mapBy 158 = .ok (.lmul, 1) := by decide +kernel
theorem dX12_mapBy_159 : decode cX12_mapBy 159 = .ok (.ladd, 1) := by decide +kernel
theorem dX12_mapBy_160 : decode cX12_mapBy 160 = .ok (.iconst 4, 1) := by decide +kernel
theorem dX12_mapBy_161 : decode cX12_mapBy 161 = .ok (.invokevirtual 120, 3) := by decide +kernel
theorem dX12_mapBy_164 : decode cX12_mapBy 164 = .ok (.lstore 10, 2) := by decide +kernel
theorem dX12_mapBy_166 : decode cX12_mapBy 166 = .ok (.aload_n 0, 1) := by decide +kernel
theorem dX12_mapBy_167 : decode cX12_mapBy 167 = .ok (.iload_n 1, 1) := by decide +kernel
theorem dX12_mapBy_168 : decode cX12_mapBy 168 = .ok (.lload_n 2, 1) := by decide +kernel
theorem dX12_mapBy_169 : decode cX12_mapBy 169 = .ok (.ldc2_w 269, 3) := by decide +kernel
theorem dX12_mapBy_172 : decode cX12_mapBy 172 = .ok (.ladd, 1) := by decide +kernel
theorem dX12_mapBy_173 : decode cX12_mapBy 173 = .ok (.ldc2_w 265, 3) := by decide +kernel
theorem dX12_mapBy_176 : decode cX12_mapBy 176 = .ok (.lload 8, 2) := by decide +kernel
theorem dX12_mapBy_178 : decode cX12_mapBy 178 = .ok (.lmul, 1) := by decide +kernel
theorem dX12_mapBy_179 : decode cX12_mapBy 179 = .ok (.ladd, 1) := by decide +kernel
theorem dX12_mapBy_180 : decode cX12_mapBy 180 = .ok (.iconst 4, 1) := by decide +kernel
theorem dX12_mapBy_181 : decode cX12_mapBy 181 = .ok (.invokevirtual 120, 3) := by decide +kernel
theorem dX12_mapBy_184 : decode cX12_mapBy 184 = .ok (.lstore 12, 2) := by decide +kernel
theorem dX12_mapBy_186 : decode cX12_mapBy 186 = .ok (.aload_n 0, 1) := by decide +kernel
theorem dX12_mapBy_187 : decode cX12_mapBy 187 = .ok (.iload_n 1, 1) := by decide +kernel
theorem dX12_mapBy_188 : decode cX12_mapBy 188 = .ok (.lload_n 2, 1) := by decide +kernel
theorem dX12_mapBy_189 : decode cX12_mapBy 189 = .ok (.ldc2_w 271, 3) := by decide +kernel
theorem dX12_mapBy_192 : decode cX12_mapBy 192 = .ok (.ladd, 1) := by decide +kernel
theorem dX12_mapBy_193 : decode cX12_mapBy 193 = .ok (.ldc2_w 265, 3) := by decide +kernel
theorem dX12_mapBy_196 : decode cX12_mapBy 196 = .ok (.lload 8, 2) := by decide +kernel
theorem dX12_mapBy_198 : decode cX12_mapBy 198 = .ok (.lmul, 1) := by decide +kernel
theorem dX12_mapBy_199 : decode cX12_mapBy 199 = .ok (.ladd, 1) := by decide +kernel
theorem dX12_mapBy_200 : decode cX12_mapBy 200 = .ok (.iconst 4, 1) := by decide +kernel
theorem dX12_mapBy_201 : decode cX12_mapBy 201 = .ok (.invokevirtual 120, 3) := by decide +kernel
theorem dX12_mapBy_204 : decode cX12_mapBy 204 = .ok (.lstore 14, 2) := by decide +kernel
theorem dX12_mapBy_206 : decode cX12_mapBy 206 = .ok (.aload_n 0, 1) := by decide +kernel
theorem dX12_mapBy_207 : decode cX12_mapBy 207 = .ok (.getfield 114, 3) := by decide +kernel
theorem dX12_mapBy_210 : decode cX12_mapBy 210 = .ok (.ifCond .ne 31, 3) := by decide +kernel
theorem dX12_mapBy_213 : decode cX12_mapBy 213 = .ok (.iload 5, 2) := by decide +kernel
theorem dX12_mapBy_215 : decode cX12_mapBy 215 = .ok (.i2l, 1) := by decide +kernel
theorem dX12_mapBy_216 : decode cX12_mapBy 216 = .ok (.lload 10, 2) := by decide +kernel
theorem dX12_mapBy_218 : decode cX12_mapBy 218 = .ok (.lcmp, 1) := by decide +kernel
theorem dX12_mapBy_219 : decode cX12_mapBy 219 = .ok (.ifCond .lt 22, 3) := by decide +kernel
theorem dX12_mapBy_222 : decode cX12_mapBy 222 = .ok (.iload 5, 2) := by decide +kernel
theorem dX12_mapBy_224 : decode cX12_mapBy 224 = .ok (.i2l, 1) := by decide +kernel
theorem dX12_mapBy_225 : decode cX12_mapBy 225 = .ok (.lload 12, 2) := by decide +kernel
theorem dX12_mapBy_227 : decode cX12_mapBy 227 = .ok (.lcmp, 1) := by decide +kernel
theorem dX12_mapBy_228 : decode cX12_mapBy 228 = .ok (.ifCond .gt 13, 3) := by decide +kernel
theorem dX12_mapBy_231 : decode cX12_mapBy 231 = .ok (.lload 14, 2) := by decide +kernel
theorem dX12_mapBy_233 : decode cX12_mapBy 233 = .ok (.iload 5, 2) := by decide +kernel
theorem dX12_mapBy_235 : decode cX12_mapBy 235 = .ok (.i2l, 1) := by decide +kernel
theorem dX12_mapBy_236 : decode cX12_mapBy 236 = .ok (.ladd, 1) := by decide +kernel
theorem dX12_mapBy_237 : decode cX12_mapBy 237 = .ok (.lload 10, 2) := by decide +kernel
theorem dX12_mapBy_239 : decode cX12_mapBy 239 = .ok (.lsub, 1) := by decide +kernel
theorem dX12_mapBy_240 : decode cX12_mapBy 240 = .ok (.lreturn, 1) := by decide +kernel
theorem dX12_mapBy_241 : decode cX12_mapBy 241 = .ok (.lload 8, 2) := by decide +kernel
theorem dX12_mapBy_243 : decode cX12_mapBy 243 = .ok (.lconst 1, 1) := by decide +kernel
theorem dX12_mapBy_244 : decode cX12_mapBy 244 = .ok (.ladd, 1) := by decide +kernel
theorem dX12_mapBy_245 : decode cX12_mapBy 245 = .ok (.lstore 8, 2) := by decide +kernel
theorem dX12_mapBy_247 : decode cX12_mapBy 247 = .ok (.goto (-116), 3) := by decide +kernel
theorem dX12_mapBy_250 : decode cX12_mapBy 250 = .ok (.lconst 0, 1) := by decide +kernel
theorem dX12_mapBy_251 : decode cX12_mapBy 251 = .ok (.lreturn, 1) := by decide +kernel
theorem dX12_mapBy_252 : decode cX12_mapBy 252 = .ok (.aload_n 0, 1) := by decide +kernel
theorem dX12_mapBy_253 : decode cX12_mapBy 253 = .ok (.iload_n 1, 1) := by decide +kernel
theorem dX12_mapBy_254 : decode cX12_mapBy 254 = .ok (.lload_n 2, 1) := by decide +kernel
theorem dX12_mapBy_255 : decode cX12_mapBy 255 = .ok (.ldc2_w 261, 3) := by decide +kernel
theorem dX12_mapBy_258 : decode cX12_mapBy 258 = .ok (.ladd, 1) := by decide +kernel
theorem dX12_mapBy_259 : decode cX12_mapBy 259 = .ok (.invokevirtual 169, 3) := by decide +kernel
