def dy_y (f : py_F) (h : Nat) : Int := match f h with
  | .inr (_, [_, _, .int y]) => y.toInt
  | _ => 0
theorem dy_eq {L : List Nat} {f : py_F} {h a b k : Nat} {y : Int32} (hr : py_at L f h (.inr (k, [.ref a, .ref b, .int y]))) : dy_y f h = y.toInt := by
  unfold dy_y
  rw [hr.2]
theorem dX1_write_0 : decode cX1_write 0 = .ok (.aload_n 0, 1) := by decide +kernel
theorem dX1_write_1 : decode cX1_write 1 = .ok (.getfield 20, 3) := by decide +kernel
theorem dX1_write_4 : decode cX1_write 4 = .ok (.bipush 60, 2) := by decide +kernel
theorem dX1_write_6 : decode cX1_write 6 = .ok (.if_icmp .lt 4, 3) := by decide +kernel
theorem dX1_write_9 : decode cX1_write 9 = .ok (.return_, 1) := by decide +kernel
theorem dX1_write_10 : decode cX1_write 10 = .ok (.iconst 0, 1) := by decide +kernel
theorem dX1_write_11 : decode cX1_write 11 = .ok (.istore_n 2, 1) := by decide +kernel
theorem dX1_write_12 : decode cX1_write 12 = .ok (.iload_n 2, 1) := by decide +kernel
theorem dX1_write_13 : decode cX1_write 13 = .ok (.bipush 10, 2) := by decide +kernel
theorem dX1_write_15 : decode cX1_write 15 = .ok (.if_icmp .ge 82, 3) := by decide +kernel
theorem dX1_write_18 : decode cX1_write 18 = .ok (.iload_n 2, 1) := by decide +kernel
theorem dX1_write_19 : decode cX1_write 19 = .ok (.aload_n 1, 1) := by decide +kernel
theorem dX1_write_20 : decode cX1_write 20 = .ok (.getfield 24, 3) := by decide +kernel
theorem dX1_write_23 : decode cX1_write 23 = .ok (.getfield 30, 3) := by decide +kernel
theorem dX1_write_26 : decode cX1_write 26 = .ok (.if_icmp .ge 7, 3) := by decide +kernel
theorem dX1_write_29 : decode cX1_write 29 = .ok (.iconst 1, 1) := by decide +kernel
theorem dX1_write_30 : decode cX1_write 30 = .ok (.goto 4, 3) := by decide +kernel
theorem dX1_write_33 : decode cX1_write 33 = .ok (.iconst 0, 1) := by decide +kernel
theorem dX1_write_34 : decode cX1_write 34 = .ok (.istore_n 3, 1) := by decide +kernel
theorem dX1_write_35 : decode cX1_write 35 = .ok (.aload_n 0, 1) := by decide +kernel
theorem dX1_write_36 : decode cX1_write 36 = .ok (.getfield 13, 3) := by decide +kernel
theorem dX1_write_39 : decode cX1_write 39 = .ok (.aload_n 0, 1) := by decide +kernel
theorem dX1_write_40 : decode cX1_write 40 = .ok (.getfield 20, 3) := by decide +kernel
theorem dX1_write_43 : decode cX1_write 43 = .ok (.bipush 10, 2) := by decide +kernel
theorem dX1_write_45 : decode cX1_write 45 = .ok (.imul, 1) := by decide +kernel
theorem dX1_write_46 : decode cX1_write 46 = .ok (.iload_n 2, 1) := by decide +kernel
theorem dX1_write_47 : decode cX1_write 47 = .ok (.iadd, 1) := by decide +kernel
theorem dX1_write_48 : decode cX1_write 48 = .ok (.iload_n 3, 1) := by decide +kernel
theorem dX1_write_49 : decode cX1_write 49 = .ok (.ifCond .eq 12, 3) := by decide +kernel
theorem dX1_write_52 : decode cX1_write 52 = .ok (.aload_n 1, 1) := by decide +kernel
theorem dX1_write_53 : decode cX1_write 53 = .ok (.getfield 33, 3) := by decide +kernel
theorem dX1_write_56 : decode cX1_write 56 = .ok (.iload_n 2, 1) := by decide +kernel
theorem dX1_write_57 : decode cX1_write 57 = .ok (.iaload, 1) := by decide +kernel
theorem dX1_write_58 : decode cX1_write 58 = .ok (.goto 4, 3) := by decide +kernel
theorem dX1_write_61 : decode cX1_write 61 = .ok (.iconst (-1), 1) := by decide +kernel
theorem dX1_write_62 : decode cX1_write 62 = .ok (.iastore, 1) := by decide +kernel
theorem dX1_write_63 : decode cX1_write 63 = .ok (.aload_n 0, 1) := by decide +kernel
theorem dX1_write_64 : decode cX1_write 64 = .ok (.getfield 17, 3) := by decide +kernel
theorem dX1_write_67 : decode cX1_write 67 = .ok (.aload_n 0, 1) := by decide +kernel
theorem dX1_write_68 : decode cX1_write 68 = .ok (.getfield 20, 3) := by decide +kernel
theorem dX1_write_71 : decode cX1_write 71 = .ok (.bipush 10, 2) := by decide +kernel
theorem dX1_write_73 : decode cX1_write 73 = .ok (.imul, 1) := by decide +kernel
theorem dX1_write_74 : decode cX1_write 74 = .ok (.iload_n 2, 1) := by decide +kernel
theorem dX1_write_75 : decode cX1_write 75 = .ok (.iadd, 1) := by decide +kernel
theorem dX1_write_76 : decode cX1_write 76 = .ok (.iload_n 3, 1) := by decide +kernel
theorem dX1_write_77 : decode cX1_write 77 = .ok (.ifCond .eq 12, 3) := by decide +kernel
theorem dX1_write_80 : decode cX1_write 80 = .ok (.aload_n 1, 1) := by decide +kernel
theorem dX1_write_81 : decode cX1_write 81 = .ok (.getfield 34, 3) := by decide +kernel
theorem dX1_write_84 : decode cX1_write 84 = .ok (.iload_n 2, 1) := by decide +kernel
theorem dX1_write_85 : decode cX1_write 85 = .ok (.iaload, 1) := by decide +kernel
theorem dX1_write_86 : decode cX1_write 86 = .ok (.goto 4, 3) := by decide +kernel
theorem dX1_write_89 : decode cX1_write 89 = .ok (.iconst 0, 1) := by decide +kernel
theorem dX1_write_90 : decode cX1_write 90 = .ok (.iastore, 1) := by decide +kernel
theorem dX1_write_91 : decode cX1_write 91 = .ok (.iinc 2 1, 3) := by decide +kernel
theorem dX1_write_94 : decode cX1_write 94 = .ok (.goto (-82), 3) := by decide +kernel
theorem dX1_write_97 : decode cX1_write 97 = .ok (.aload_n 0, 1) := by decide +kernel
theorem dX1_write_98 : decode cX1_write 98 = .ok (.dup, 1) := by decide +kernel
theorem dX1_write_99 : decode cX1_write 99 = .ok (.getfield 20, 3) := by decide +kernel
theorem dX1_write_102 : decode cX1_write 102 = .ok (.iconst 1, 1) := by decide +kernel
theorem dX1_write_103 : decode cX1_write 103 = .ok (.iadd, 1) := by decide +kernel
theorem dX1_write_104 : decode cX1_write 104 = .ok (.putfield 20, 3) := by decide +kernel
theorem dX1_write_107 : decode cX1_write 107 = .ok (.return_, 1) := by decide +kernel
theorem dX5_fewestFirst_0 : decode cX5_fewestFirst 0 = .ok (.aload_n 1, 1) := by decide +kernel
theorem dX5_fewestFirst_1 : decode cX5_fewestFirst 1 = .ok (.invokevirtual 59, 3) := by decide +kernel
theorem dX5_fewestFirst_4 : decode cX5_fewestFirst 4 = .ok (.iconst (-1), 1) := by decide +kernel
theorem dX5_fewestFirst_5 : decode cX5_fewestFirst 5 = .ok (.ixor, 1) := by decide +kernel
theorem dX5_fewestFirst_6 : decode cX5_fewestFirst 6 = .ok (.iconst 1, 1) := by decide +kernel
theorem dX5_fewestFirst_7 : decode cX5_fewestFirst 7 = .ok (.aload_n 1, 1) := by decide +kernel
theorem dX5_fewestFirst_8 : decode cX5_fewestFirst 8 = .ok (.getfield 50, 3) := by decide +kernel
theorem dX5_fewestFirst_11 : decode cX5_fewestFirst 11 = .ok (.iload_n 2, 1) := by decide +kernel
theorem dX5_fewestFirst_12 : decode cX5_fewestFirst 12 = .ok (.iaload, 1) := by decide +kernel
theorem dX5_fewestFirst_13 : decode cX5_fewestFirst 13 = .ok (.ishl, 1) := by decide +kernel
theorem dX5_fewestFirst_14 : decode cX5_fewestFirst 14 = .ok (.ior, 1) := by decide +kernel
theorem dX5_fewestFirst_15 : decode cX5_fewestFirst 15 = .ok (.istore_n 3, 1) := by decide +kernel
theorem dX5_fewestFirst_16 : decode cX5_fewestFirst 16 = .ok (.iconst 1, 1) := by decide +kernel
theorem dX5_fewestFirst_17 : decode cX5_fewestFirst 17 = .ok (.aload_n 1, 1) := by decide +kernel
theorem dX5_fewestFirst_18 : decode cX5_fewestFirst 18 = .ok (.iload_n 2, 1) := by decide +kernel
theorem dX5_fewestFirst_19 : decode cX5_fewestFirst 19 = .ok (.invokevirtual 47, 3) := by decide +kernel
theorem dX5_fewestFirst_22 : decode cX5_fewestFirst 22 = .ok (.ishl, 1) := by decide +kernel
theorem dX5_fewestFirst_23 : decode cX5_fewestFirst 23 = .ok (.istore 4, 2) := by decide +kernel
theorem dX5_fewestFirst_25 : decode cX5_fewestFirst 25 = .ok (.iconst 0, 1) := by decide +kernel
theorem dX5_fewestFirst_26 : decode cX5_fewestFirst 26 = .ok (.istore 5, 2) := by decide +kernel
theorem dX5_fewestFirst_28 : decode cX5_fewestFirst 28 = .ok (.iload 5, 2) := by decide +kernel
theorem dX5_fewestFirst_30 : decode cX5_fewestFirst 30 = .ok (.bipush 8, 2) := by decide +kernel
theorem dX5_fewestFirst_32 : decode cX5_fewestFirst 32 = .ok (.if_icmp .ge 30, 3) := by decide +kernel
theorem dX5_fewestFirst_35 : decode cX5_fewestFirst 35 = .ok (.iload 4, 2) := by decide +kernel
theorem dX5_fewestFirst_37 : decode cX5_fewestFirst 37 = .ok (.iload_n 3, 1) := by decide +kernel
theorem dX5_fewestFirst_38 : decode cX5_fewestFirst 38 = .ok (.iand, 1) := by decide +kernel
theorem dX5_fewestFirst_39 : decode cX5_fewestFirst 39 = .ok (.ifCond .eq 6, 3) := by decide +kernel
theorem dX5_fewestFirst_42 : decode cX5_fewestFirst 42 = .ok (.iload 5, 2) := by decide +kernel
theorem dX5_fewestFirst_44 : decode cX5_fewestFirst 44 = .ok (.ireturn, 1) := by decide +kernel
theorem dX5_fewestFirst_45 : decode cX5_fewestFirst 45 = .ok (.iload 4, 2) := by decide +kernel
theorem dX5_fewestFirst_47 : decode cX5_fewestFirst 47 = .ok (.aload_n 1, 1) := by decide +kernel
theorem dX5_fewestFirst_48 : decode cX5_fewestFirst 48 = .ok (.iload 4, 2) := by decide +kernel
theorem dX5_fewestFirst_50 : decode cX5_fewestFirst 50 = .ok (.invokestatic 62, 3) := by decide +kernel
theorem dX5_fewestFirst_53 : decode cX5_fewestFirst 53 = .ok (.ior, 1) := by decide +kernel
theorem dX5_fewestFirst_54 : decode cX5_fewestFirst 54 = .ok (.istore 4, 2) := by decide +kernel
theorem dX5_fewestFirst_56 : decode cX5_fewestFirst 56 = .ok (.iinc 5 1, 3) := by decide +kernel
theorem dX5_fewestFirst_59 : decode cX5_fewestFirst 59 = .ok (.goto (-31), 3) := by decide +kernel
theorem dX5_fewestFirst_62 : decode cX5_fewestFirst 62 = .ok (.iconst (-1), 1) := by decide +kernel
theorem dX5_fewestFirst_63 : decode cX5_fewestFirst 63 = .ok (.ireturn, 1) := by decide +kernel
theorem dX5_wantedFrom_0 : decode cX5_wantedFrom 0 = .ok (.iconst 0, 1) := by decide +kernel
theorem dX5_wantedFrom_1 : decode cX5_wantedFrom 1 = .ok (.istore_n 2, 1) := by decide +kernel
theorem dX5_wantedFrom_2 : decode cX5_wantedFrom 2 = .ok (.iconst 0, 1) := by decide +kernel
theorem dX5_wantedFrom_3 : decode cX5_wantedFrom 3 = .ok (.istore_n 3, 1) := by decide +kernel
theorem dX5_wantedFrom_4 : decode cX5_wantedFrom 4 = .ok (.iload_n 3, 1) := by decide +kernel
theorem dX5_wantedFrom_5 : decode cX5_wantedFrom 5 = .ok (.aload_n 0, 1) := by decide +kernel
theorem dX5_wantedFrom_6 : decode cX5_wantedFrom 6 = .ok (.getfield 39, 3) := by decide +kernel
theorem dX5_wantedFrom_9 : decode cX5_wantedFrom 9 = .ok (.getfield 43, 3) := by decide +kernel
theorem dX5_wantedFrom_12 : decode cX5_wantedFrom 12 = .ok (.if_icmp .ge 41, 3) := by decide +kernel
theorem dX5_wantedFrom_15 : decode cX5_wantedFrom 15 = .ok (.aload_n 0, 1) := by decide +kernel
theorem dX5_wantedFrom_16 : decode cX5_wantedFrom 16 = .ok (.iload_n 3, 1) := by decide +kernel
theorem dX5_wantedFrom_17 : decode cX5_wantedFrom 17 = .ok (.invokevirtual 66, 3) := by decide +kernel
theorem dX5_wantedFrom_20 : decode cX5_wantedFrom 20 = .ok (.ifCond .eq 27, 3) := by decide +kernel
theorem dX5_wantedFrom_23 : decode cX5_wantedFrom 23 = .ok (.iload_n 1, 1) := by decide +kernel
theorem dX5_wantedFrom_24 : decode cX5_wantedFrom 24 = .ok (.aload_n 0, 1) := by decide +kernel
theorem dX5_wantedFrom_25 : decode cX5_wantedFrom 25 = .ok (.getfield 50, 3) := by decide +kernel
theorem dX5_wantedFrom_28 : decode cX5_wantedFrom 28 = .ok (.iload_n 3, 1) := by decide +kernel
theorem dX5_wantedFrom_29 : decode cX5_wantedFrom 29 = .ok (.iaload, 1) := by decide +kernel
theorem dX5_wantedFrom_30 : decode cX5_wantedFrom 30 = .ok (.ishr, 1) := by decide +kernel
theorem dX5_wantedFrom_31 : decode cX5_wantedFrom 31 = .ok (.iconst 1, 1) := by decide +kernel
theorem dX5_wantedFrom_32 : decode cX5_wantedFrom 32 = .ok (.iand, 1) := by decide +kernel
theorem dX5_wantedFrom_33 : decode cX5_wantedFrom 33 = .ok (.iconst 1, 1) := by decide +kernel
theorem dX5_wantedFrom_34 : decode cX5_wantedFrom 34 = .ok (.if_icmp .ne 13, 3) := by decide +kernel
theorem dX5_wantedFrom_37 : decode cX5_wantedFrom 37 = .ok (.iload_n 2, 1) := by decide +kernel
theorem dX5_wantedFrom_38 : decode cX5_wantedFrom 38 = .ok (.iconst 1, 1) := by decide +kernel
theorem dX5_wantedFrom_39 : decode cX5_wantedFrom 39 = .ok (.aload_n 0, 1) := by decide +kernel
theorem dX5_wantedFrom_40 : decode cX5_wantedFrom 40 = .ok (.iload_n 3, 1) := by decide +kernel
theorem dX5_wantedFrom_41 : decode cX5_wantedFrom 41 = .ok (.invokevirtual 47, 3) := by decide +kernel
theorem dX5_wantedFrom_44 : decode cX5_wantedFrom 44 = .ok (.ishl, 1) := by decide +kernel
theorem dX5_wantedFrom_45 : decode cX5_wantedFrom 45 = .ok (.ior, 1) := by decide +kernel
theorem dX5_wantedFrom_46 : decode cX5_wantedFrom 46 = .ok (.istore_n 2, 1) := by decide +kernel
theorem dX5_wantedFrom_47 : decode cX5_wantedFrom 47 = .ok (.iinc 3 1, 3) := by decide +kernel
theorem dX5_wantedFrom_50 : decode cX5_wantedFrom 50 = .ok (.goto (-46), 3) := by decide +kernel
theorem dX5_wantedFrom_53 : decode cX5_wantedFrom 53 = .ok (.iload_n 2, 1) := by decide +kernel
theorem dX5_wantedFrom_54 : decode cX5_wantedFrom 54 = .ok (.ireturn, 1) := by decide +kernel
theorem dX7_drawBorn_0 : decode cX7_drawBorn 0 = .ok (.aload_n 0, 1) := by decide +kernel
theorem dX7_drawBorn_1 : decode cX7_drawBorn 1 = .ok (.bipush 100, 2) := by decide +kernel
theorem dX7_drawBorn_3 : decode cX7_drawBorn 3 = .ok (.invokevirtual 100, 3) := by decide +kernel
theorem dX7_drawBorn_6 : decode cX7_drawBorn 6 = .ok (.aload_n 0, 1) := by decide +kernel
theorem dX7_drawBorn_7 : decode cX7_drawBorn 7 = .ok (.getfield 33, 3) := by decide +kernel
theorem dX7_drawBorn_10 : decode cX7_drawBorn 10 = .ok (.getfield 103, 3) := by decide +kernel
theorem dX7_drawBorn_13 : decode cX7_drawBorn 13 = .ok (.iload_n 1, 1) := by decide +kernel
theorem dX7_drawBorn_14 : decode cX7_drawBorn 14 = .ok (.iaload, 1) := by decide +kernel
theorem dX7_drawBorn_15 : decode cX7_drawBorn 15 = .ok (.if_icmp .lt 5, 3) := by decide +kernel
theorem dX7_drawBorn_18 : decode cX7_drawBorn 18 = .ok (.iconst 0, 1) := by decide +kernel
theorem dX7_drawBorn_19 : decode cX7_drawBorn 19 = .ok (.ireturn, 1) := by decide +kernel
theorem dX7_drawBorn_20 : decode cX7_drawBorn 20 = .ok (.aload_n 0, 1) := by decide +kernel
theorem dX7_drawBorn_21 : decode cX7_drawBorn 21 = .ok (.bipush 100, 2) := by decide +kernel
theorem dX7_drawBorn_23 : decode cX7_drawBorn 23 = .ok (.invokevirtual 100, 3) := by decide +kernel
theorem dX7_drawBorn_26 : decode cX7_drawBorn 26 = .ok (.aload_n 0, 1) := by decide +kernel
theorem dX7_drawBorn_27 : decode cX7_drawBorn 27 = .ok (.getfield 33, 3) := by decide +kernel
theorem dX7_drawBorn_30 : decode cX7_drawBorn 30 = .ok (.getfield 106, 3) := by decide +kernel
theorem dX7_drawBorn_33 : decode cX7_drawBorn 33 = .ok (.iload_n 1, 1) := by decide +kernel
theorem dX7_drawBorn_34 : decode cX7_drawBorn 34 = .ok (.iaload, 1) := by decide +kernel
theorem dX7_drawBorn_35 : decode cX7_drawBorn 35 = .ok (.if_icmp .ge 7, 3) := by decide +kernel
theorem dX7_drawBorn_38 : decode cX7_drawBorn 38 = .ok (.iconst 2, 1) := by decide +kernel
theorem dX7_drawBorn_39 : decode cX7_drawBorn 39 = .ok (.goto 4, 3) := by decide +kernel
theorem dX7_drawBorn_42 : decode cX7_drawBorn 42 = .ok (.iconst 1, 1) := by decide +kernel
theorem dX7_drawBorn_43 : decode cX7_drawBorn 43 = .ok (.ireturn, 1) := by decide +kernel
theorem dX7_drawCounted_0 : decode cX7_drawCounted 0 = .ok (.aload_n 1, 1) := by decide +kernel
theorem dX7_drawCounted_1 : decode cX7_drawCounted 1 = .ok (.getfield 112, 3) := by decide +kernel
theorem dX7_drawCounted_4 : decode cX7_drawCounted 4 = .ok (.iload_n 2, 1) := by decide +kernel
theorem dX7_drawCounted_5 : decode cX7_drawCounted 5 = .ok (.baload, 1) := by decide +kernel
theorem dX7_drawCounted_6 : decode cX7_drawCounted 6 = .ok (.ifCond .eq 7, 3) := by decide +kernel
theorem dX7_drawCounted_9 : decode cX7_drawCounted 9 = .ok (.iload_n 3, 1) := by decide +kernel
theorem dX7_drawCounted_10 : decode cX7_drawCounted 10 = .ok (.ifCond .ne 5, 3) := by decide +kernel
theorem dX7_drawCounted_13 : decode cX7_drawCounted 13 = .ok (.iload_n 3, 1) := by decide +kernel
theorem dX7_drawCounted_14 : decode cX7_drawCounted 14 = .ok (.ireturn, 1) := by decide +kernel
theorem dX7_drawCounted_15 : decode cX7_drawCounted 15 = .ok (.aload_n 1, 1) := by decide +kernel
theorem dX7_drawCounted_16 : decode cX7_drawCounted 16 = .ok (.bipush 100, 2) := by decide +kernel
theorem dX7_drawCounted_18 : decode cX7_drawCounted 18 = .ok (.invokevirtual 100, 3) := by decide +kernel
theorem dX7_drawCounted_21 : decode cX7_drawCounted 21 = .ok (.aload_n 0, 1) := by decide +kernel
theorem dX7_drawCounted_22 : decode cX7_drawCounted 22 = .ok (.getfield 25, 3) := by decide +kernel
theorem dX7_drawCounted_25 : decode cX7_drawCounted 25 = .ok (.if_icmp .ge 9, 3) := by decide +kernel
theorem dX7_drawCounted_28 : decode cX7_drawCounted 28 = .ok (.iconst 2, 1) := by decide +kernel
theorem dX7_drawCounted_29 : decode cX7_drawCounted 29 = .ok (.iload_n 3, 1) := by decide +kernel
theorem dX7_drawCounted_30 : decode cX7_drawCounted 30 = .ok (.imul, 1) := by decide +kernel
theorem dX7_drawCounted_31 : decode cX7_drawCounted 31 = .ok (.goto 4, 3) := by decide +kernel
theorem dX7_drawCounted_34 : decode cX7_drawCounted 34 = .ok (.iconst 0, 1) := by decide +kernel
theorem dX7_drawCounted_35 : decode cX7_drawCounted 35 = .ok (.ireturn, 1) := by decide +kernel
theorem dX7_metTwice_0 : decode cX7_metTwice 0 = .ok (.iconst 0, 1) := by decide +kernel
theorem dX7_metTwice_1 : decode cX7_metTwice 1 = .ok (.istore_n 2, 1) := by decide +kernel
theorem dX7_metTwice_2 : decode cX7_metTwice 2 = .ok (.iload_n 1, 1) := by decide +kernel
theorem dX7_metTwice_3 : decode cX7_metTwice 3 = .ok (.istore_n 3, 1) := by decide +kernel
theorem dX7_metTwice_4 : decode cX7_metTwice 4 = .ok (.iconst 0, 1) := by decide +kernel
theorem dX7_metTwice_5 : decode cX7_metTwice 5 = .ok (.istore 4, 2) := by decide +kernel
theorem dX7_metTwice_7 : decode cX7_metTwice 7 = .ok (.iload 4, 2) := by decide +kernel
theorem dX7_metTwice_9 : decode cX7_metTwice 9 = .ok (.bipush 10, 2) := by decide +kernel
theorem dX7_metTwice_11 : decode cX7_metTwice 11 = .ok (.if_icmp .gt 37, 3) := by decide +kernel
theorem dX7_metTwice_14 : decode cX7_metTwice 14 = .ok (.iload_n 3, 1) := by decide +kernel
theorem dX7_metTwice_15 : decode cX7_metTwice 15 = .ok (.iconst (-1), 1) := by decide +kernel
theorem dX7_metTwice_16 : decode cX7_metTwice 16 = .ok (.if_icmp .eq 32, 3) := by decide +kernel
theorem dX7_metTwice_19 : decode cX7_metTwice 19 = .ok (.iload_n 2, 1) := by decide +kernel
theorem dX7_metTwice_20 : decode cX7_metTwice 20 = .ok (.iload_n 3, 1) := by decide +kernel
theorem dX7_metTwice_21 : decode cX7_metTwice 21 = .ok (.ishr, 1) := by decide +kernel
theorem dX7_metTwice_22 : decode cX7_metTwice 22 = .ok (.iconst 1, 1) := by decide +kernel
theorem dX7_metTwice_23 : decode cX7_metTwice 23 = .ok (.iand, 1) := by decide +kernel
theorem dX7_metTwice_24 : decode cX7_metTwice 24 = .ok (.iconst 1, 1) := by decide +kernel
theorem dX7_metTwice_25 : decode cX7_metTwice 25 = .ok (.if_icmp .ne 5, 3) := by decide +kernel
theorem dX7_metTwice_28 : decode cX7_metTwice 28 = .ok (.iload_n 3, 1) := by decide +kernel
theorem dX7_metTwice_29 : decode cX7_metTwice 29 = .ok (.ireturn, 1) := by decide +kernel
theorem dX7_metTwice_30 : decode cX7_metTwice 30 = .ok (.iload_n 2, 1) := by decide +kernel
theorem dX7_metTwice_31 : decode cX7_metTwice 31 = .ok (.iconst 1, 1) := by decide +kernel
theorem dX7_metTwice_32 : decode cX7_metTwice 32 = .ok (.iload_n 3, 1) := by decide +kernel
theorem dX7_metTwice_33 : decode cX7_metTwice 33 = .ok (.ishl, 1) := by decide +kernel
theorem dX7_metTwice_34 : decode cX7_metTwice 34 = .ok (.ior, 1) := by decide +kernel
theorem dX7_metTwice_35 : decode cX7_metTwice 35 = .ok (.istore_n 2, 1) := by decide +kernel
theorem dX7_metTwice_36 : decode cX7_metTwice 36 = .ok (.aload_n 0, 1) := by decide +kernel
theorem dX7_metTwice_37 : decode cX7_metTwice 37 = .ok (.iload_n 3, 1) := by decide +kernel
theorem dX7_metTwice_38 : decode cX7_metTwice 38 = .ok (.invokestatic 149, 3) := by decide +kernel
theorem dX7_metTwice_41 : decode cX7_metTwice 41 = .ok (.istore_n 3, 1) := by decide +kernel
theorem dX7_metTwice_42 : decode cX7_metTwice 42 = .ok (.iinc 4 1, 3) := by decide +kernel
theorem dX7_metTwice_45 : decode cX7_metTwice 45 = .ok (.goto (-38), 3) := by decide +kernel
theorem dX7_metTwice_48 : decode cX7_metTwice 48 = .ok (.iconst (-1), 1) := by decide +kernel
theorem dX7_metTwice_49 : decode cX7_metTwice 49 = .ok (.ireturn, 1) := by decide +kernel
theorem dX7_nextOf_0 : decode cX7_nextOf 0 = .ok (.aload_n 0, 1) := by decide +kernel
theorem dX7_nextOf_1 : decode cX7_nextOf 1 = .ok (.getfield 86, 3) := by decide +kernel
theorem dX7_nextOf_4 : decode cX7_nextOf 4 = .ok (.iload_n 1, 1) := by decide +kernel
theorem dX7_nextOf_5 : decode cX7_nextOf 5 = .ok (.iaload, 1) := by decide +kernel
theorem dX7_nextOf_6 : decode cX7_nextOf 6 = .ok (.aload_n 0, 1) := by decide +kernel
theorem dX7_nextOf_7 : decode cX7_nextOf 7 = .ok (.getfield 89, 3) := by decide +kernel
theorem dX7_nextOf_10 : decode cX7_nextOf 10 = .ok (.iload_n 1, 1) := by decide +kernel
theorem dX7_nextOf_11 : decode cX7_nextOf 11 = .ok (.iaload, 1) := by decide +kernel
theorem dX7_nextOf_12 : decode cX7_nextOf 12 = .ok (.iadd, 1) := by decide +kernel
theorem dX7_nextOf_13 : decode cX7_nextOf 13 = .ok (.istore_n 2, 1) := by decide +kernel
theorem dX7_nextOf_14 : decode cX7_nextOf 14 = .ok (.iconst 0, 1) := by decide +kernel
theorem dX7_nextOf_15 : decode cX7_nextOf 15 = .ok (.istore_n 3, 1) := by decide +kernel
theorem dX7_nextOf_16 : decode cX7_nextOf 16 = .ok (.iload_n 3, 1) := by decide +kernel
theorem dX7_nextOf_17 : decode cX7_nextOf 17 = .ok (.aload_n 0, 1) := by decide +kernel
theorem dX7_nextOf_18 : decode cX7_nextOf 18 = .ok (.getfield 33, 3) := by decide +kernel
theorem dX7_nextOf_21 : decode cX7_nextOf 21 = .ok (.getfield 46, 3) := by decide +kernel
theorem dX7_nextOf_24 : decode cX7_nextOf 24 = .ok (.if_icmp .ge 30, 3) := by decide +kernel
theorem dX7_nextOf_27 : decode cX7_nextOf 27 = .ok (.aload_n 0, 1) := by decide +kernel
theorem dX7_nextOf_28 : decode cX7_nextOf 28 = .ok (.getfield 86, 3) := by decide +kernel
theorem dX7_nextOf_31 : decode cX7_nextOf 31 = .ok (.iload_n 3, 1) := by decide +kernel
theorem dX7_nextOf_32 : decode cX7_nextOf 32 = .ok (.iaload, 1) := by decide +kernel
theorem dX7_nextOf_33 : decode cX7_nextOf 33 = .ok (.iload_n 2, 1) := by decide +kernel
theorem dX7_nextOf_34 : decode cX7_nextOf 34 = .ok (.if_icmp .ne 14, 3) := by decide +kernel
theorem dX7_nextOf_37 : decode cX7_nextOf 37 = .ok (.aload_n 0, 1) := by decide +kernel
theorem dX7_nextOf_38 : decode cX7_nextOf 38 = .ok (.getfield 89, 3) := by decide +kernel
theorem dX7_nextOf_41 : decode cX7_nextOf 41 = .ok (.iload_n 3, 1) := by decide +kernel
theorem dX7_nextOf_42 : decode cX7_nextOf 42 = .ok (.iaload, 1) := by decide +kernel
theorem dX7_nextOf_43 : decode cX7_nextOf 43 = .ok (.ifCond .eq 5, 3) := by decide +kernel
theorem dX7_nextOf_46 : decode cX7_nextOf 46 = .ok (.iload_n 3, 1) := by decide +kernel
theorem dX7_nextOf_47 : decode cX7_nextOf 47 = .ok (.ireturn, 1) := by decide +kernel
theorem dX7_nextOf_48 : decode cX7_nextOf 48 = .ok (.iinc 3 1, 3) := by decide +kernel
theorem dX7_nextOf_51 : decode cX7_nextOf 51 = .ok (.goto (-35), 3) := by decide +kernel
theorem dX7_nextOf_54 : decode cX7_nextOf 54 = .ok (.iconst (-1), 1) := by decide +kernel
theorem dX7_nextOf_55 : decode cX7_nextOf 55 = .ok (.ireturn, 1) := by decide +kernel
def w_X1_write : List Cond := .code yX1_write cX1_write 4 none :: ([Cond.fieldLink RX1 20 "HeadYear$Diary" "years" "I", Cond.fieldLink RX1 24 "HeadYear$Folk" "valley" "LHeadYear$Valley;", Cond.fieldLink RX1 30 "HeadYear$Valley" "families" "I", Cond.fieldLink RX1 13 "HeadYear$Diary" "level" "[I", Cond.fieldLink RX1 17 "HeadYear$Diary" "heads" "[I", Cond.fieldLink RX1 34 "HeadYear$Folk" "heads" "[I", Cond.fieldLink RX1 33 "HeadYear$Folk" "level" "[I"] ++ (u_ws RX1 TX1 3 ++ (u_ws RX2 TX2 12 ++ (u_ws RX9 TX9 10 ++ ([])))))
theorem in_X1_write_X1 : ∀ w ∈ u_ws RX1 TX1 3, w ∈ w_X1_write := fun _ h => List.mem_cons_of_mem _ (List.mem_append_right _ (List.mem_append_left _ h))
theorem in_X1_write_X2 : ∀ w ∈ u_ws RX2 TX2 12, w ∈ w_X1_write := fun _ h => List.mem_cons_of_mem _ (List.mem_append_right _ (List.mem_append_right _ (List.mem_append_left _ h)))
theorem in_X1_write_X9 : ∀ w ∈ u_ws RX9 TX9 10, w ∈ w_X1_write := fun _ h => List.mem_cons_of_mem _ (List.mem_append_right _ (List.mem_append_right _ (List.mem_append_right _ (List.mem_append_left _ h))))
set_option maxHeartbeats 4000000 in
set_option maxRecDepth 100000 in
theorem c_X1_write (l : Launch) (E : py_E) (G : wf_G) (L : List Nat) (f : py_F) (sz : Nat) (h : Nat) (o : Nat) (hG : GT G) (hWF : WF E G L f) (Th : G.1 h = 2) (To : G.1 o = 3) : Met l yX1_write w_X1_write ({ frames := 0, cells := 0, slots := 0, locals := 0 }) (py_Pc E [.ref h, .ref o] L f sz) (py_Qv E L f sz (fun L1 f1 => WF E G L1 f1 ∧ RP E G f f1 ∧ KP G [2, 31] false f f1)) 0 0 (va_A (va_pl L f) sz) := by
  refine Met.ofW (cc := cX1_write) (maxL := 4) (ret := none) (by decide) rfl ?_
  intro p e s m args below meth c s₁ B hml hv
  obtain ⟨rfl, rfl, hw⟩ := py_start hv
  have G0 : CallFix p m c cX1_write 4 s _ w_X1_write RX1 := ⟨B.exec, B.bytes, hml, findClass_of_methodNamed B.named, atoms_spec (ws := w_X1_write) B.pre⟩
  have hr := B.returns
  have hlk := B.notSynchronized
  have kcm1 : (-1 : Int32).toInt = -1 := rfl
  have kc0 : (0 : Int32).toInt = 0 := rfl
  have kc1 : (1 : Int32).toInt = 1 := rfl
  have kc10 : (10 : Int32).toInt = 10 := rfl
  have kc60 : (60 : Int32).toInt = 60 := rfl
  have hl := lv_entry ([.ref h, .ref o]) (n := 4) (Nat.le_of_ble_eq_true rfl)
  rw [lg_entry_eq]
  generalize (lg_sl ([.ref h, .ref o]) ++ List.replicate (4 - (lg_sl ([.ref h, .ref o])).length) Slot.unset).toArray = ls at hl ⊢
  have hl : lv_has ls 4 [(0, .ref h), (1, .ref o)] := hl
  have hRP : RP E G f f := RP.refl
  have hKP : KP G [2, 31] false f f := KP.refl
  refine lv_aload_n G0.1 G0.2.1 dX1_write_0 rfl (lv_at hl 0 rfl) ?_
  obtain ⟨t_1, t_2⟩ := wt_1 hG Th
  obtain ⟨v_3, hr_5, b_4⟩ := wg_1 hWF Th
  have tq_6 := dy_eq hr_5
  refine py_get (C := RX1) (T := TX1) (N := 3) (k := 2) (v := .int v_3) G0 hw in_X1_write_X1 rfl hr_5 (by decide) (by decide +kernel) rfl dX1_write_1 ?_
  refine lv_bipush (v := 60) G0.1 G0.2.1 dX1_write_4 (by decide) ?_
  refine lv_icmp_lt (tgt := 10) G0.1 G0.2.1 dX1_write_6 (by decide) (fun c_7 => ?_) (fun c_7 => ?_)
  · skip
    have tc_7 := ti_lt c_7
    refine lv_iconst (v := 0) G0.1 G0.2.1 dX1_write_10 (by decide) ?_
    refine lv_istore_n (lv' := [(2, .int 0), (0, .ref h), (1, .ref o)]) G0.1 G0.2.1 dX1_write_11 rfl hl (by decide) rfl (fun ls hl => ?_)
    have lo_12 : ∀ n_12 : Nat, ∀ (v_8 : Int32) (L_j12 : List Nat) (f_j12 : py_F) (H_j12 : Heap) (locs : List Loc) (ls : Array Slot), (2147483647 - v_8.toInt).toNat = n_12 → (0 ≤ v_8.toInt ∧ v_8.toInt ≤ 2147483647) → WF E G L_j12 f_j12 → RP E G f f_j12 → KP G [2, 31] false f f_j12 → (dy_y f_j12 h < 60) → py_W E (va_A (va_pl L f) s.heap.size) s L_j12 f_j12 H_j12 locs → lv_has ls 4 [(2, .int v_8), (0, .ref h), (1, .ref o)] → W p l e (headSpec w_X1_write ({ frames := 0, cells := 0, slots := 0, locals := 0 })).room s m ([.ref h, .ref o] : List Value).toArray below meth c H_j12 locs 0 0 (MQ below (py_Qv E L f s.heap.size (fun L1 f1 => WF E G L1 f1 ∧ RP E G f f1 ∧ KP G [2, 31] false f f1)) ([.ref h, .ref o] : List Value).toArray s 0 0 (va_A (va_pl L f) s.heap.size)) (F0 m 12 ls []) := by
      intro n_12
      induction n_12 using Nat.strongRecOn with
      | _ n_12 ih_12 =>
        intro v_8 L_j12 f_j12 H_j12 locs ls hn_12 bv_8 hWF hRP hKP iv0 hw hl
        refine lv_iload_n G0.1 G0.2.1 dX1_write_12 rfl (lv_at hl 0 rfl) ?_
        refine lv_bipush (v := 10) G0.1 G0.2.1 dX1_write_13 (by decide) ?_
        refine lv_icmp_ge (tgt := 97) G0.1 G0.2.1 dX1_write_15 (by decide) (fun c_9 => ?_) (fun c_9 => ?_)
        · skip
          have tc_9 := ti_le c_9
          refine lv_aload_n G0.1 G0.2.1 dX1_write_97 rfl (lv_at hl 1 rfl) ?_
          refine lv_dup G0.1 G0.2.1 dX1_write_98 rfl ?_
          obtain ⟨v_10, hr_12, b_11⟩ := wg_1 hWF Th
          have tq_13 := dy_eq hr_12
          refine py_get (C := RX1) (T := TX1) (N := 3) (k := 2) (v := .int v_10) G0 hw in_X1_write_X1 rfl hr_12 (by decide) (by decide +kernel) rfl dX1_write_99 ?_
          refine lv_iconst (v := 1) G0.1 G0.2.1 dX1_write_102 (by decide) ?_
          refine lv_iadd G0.1 G0.2.1 dX1_write_103 ?_
          refine lv_topi (fun x_14 ex_14 => ?_)
          first | have tx_14 := ti_add ex_14 (by omega) (by omega) | skip
          refine py_put (C := RX1) (T := TX1) (N := 3) (k := 2) (v := .int x_14) (fs' := [.ref (G.2 h 0), .ref (G.2 h 1), .int x_14]) (ty0 := tyX1) G0 hw tyX1_ok nmX1 in_X1_write_X1 rfl hr_12 (by decide) (by decide +kernel) rfl rfl rfl rfl (Nat.le_of_ble_eq_true rfl) rfl dX1_write_104 (fun f_15 H_16 locs h_17 x_18 hw => ?_)
          have hKP := hKP.upd hWF x_18 Th (Or.inl (by decide))
          have hRP := hRP.trans (rp_upd hG hWF x_18 hr_12.2 h_17.2 (rp_code hG Th (by decide)) rfl)
          have hWF := wf_upd hWF h_17 x_18 (by rw [Th]; exact ⟨x_14, rfl, ⟨by omega, by omega⟩⟩)
          have tq_19 := dy_eq h_17
          exact py_vret G0 hr hlk hw ⟨hWF, hRP, hKP⟩ dX1_write_107
        · skip
          have tc_9 := ti_nle c_9
          refine lv_iload_n G0.1 G0.2.1 dX1_write_18 rfl (lv_at hl 0 rfl) ?_
          refine lv_aload_n G0.1 G0.2.1 dX1_write_19 rfl (lv_at hl 2 rfl) ?_
          obtain ⟨t_20, t_21, t_22, t_23, t_24, t_25, t_26, t_27, t_28⟩ := wt_2 hG To
          obtain ⟨r_29, y_30, v_31, hr_34, ty_32, b_33⟩ := wg_2 hWF To
          refine py_get (C := RX2) (T := TX2) (N := 12) (k := 9) (v := .ref r_29) G0 hw in_X1_write_X2 rfl hr_34 (by decide) (by decide +kernel) rfl dX1_write_20 ?_
          obtain ⟨t_35, t_36, t_37, t_38, t_39, t_40, t_41, t_42⟩ := wt_9 hG ty_32
          obtain ⟨v_43, v_44, hr_47, b_45, b_46⟩ := wg_9 hWF ty_32
          have tq_48 := va_eq hr_47
          refine py_get (C := RX9) (T := TX9) (N := 10) (k := 9) (v := .int v_44) G0 hw in_X1_write_X9 rfl hr_47 (by decide) (by decide +kernel) rfl dX1_write_23 ?_
          have jn_34 : ∀ (v_49 : Int32) (H_j34 : Heap) (locs : List Loc) (ls : Array Slot), (0 ≤ v_49.toInt ∧ v_49.toInt ≤ 1) → py_W E (va_A (va_pl L f) s.heap.size) s L_j12 f_j12 H_j34 locs → lv_has ls 4 [(2, .int v_8), (0, .ref h), (1, .ref o)] → W p l e (headSpec w_X1_write ({ frames := 0, cells := 0, slots := 0, locals := 0 })).room s m ([.ref h, .ref o] : List Value).toArray below meth c H_j34 locs 0 0 (MQ below (py_Qv E L f s.heap.size (fun L1 f1 => WF E G L1 f1 ∧ RP E G f f1 ∧ KP G [2, 31] false f f1)) ([.ref h, .ref o] : List Value).toArray s 0 0 (va_A (va_pl L f) s.heap.size)) (F0 m 34 ls [.int v_49]) := by
            intro v_49 H_j34 locs ls bv_49 hw hl
            refine lv_istore_n (lv' := [(3, .int v_49), (2, .int v_8), (0, .ref h), (1, .ref o)]) G0.1 G0.2.1 dX1_write_34 rfl hl (by decide) rfl (fun ls hl => ?_)
            refine lv_aload_n G0.1 G0.2.1 dX1_write_35 rfl (lv_at hl 2 rfl) ?_
            obtain ⟨v_50, hr_52, b_51⟩ := wg_1 hWF Th
            have tq_53 := dy_eq hr_52
            refine py_get (C := RX1) (T := TX1) (N := 3) (k := 0) (v := .ref (G.2 h 0)) G0 hw in_X1_write_X1 rfl hr_52 (by decide) (by decide +kernel) rfl dX1_write_36 ?_
            refine lv_aload_n G0.1 G0.2.1 dX1_write_39 rfl (lv_at hl 2 rfl) ?_
            refine py_get (C := RX1) (T := TX1) (N := 3) (k := 2) (v := .int v_50) G0 hw in_X1_write_X1 rfl hr_52 (by decide) (by decide +kernel) rfl dX1_write_40 ?_
            refine lv_bipush (v := 10) G0.1 G0.2.1 dX1_write_43 (by decide) ?_
            refine lv_imul G0.1 G0.2.1 dX1_write_45 ?_
            refine lv_topi (fun x_54 ex_54 => ?_)
            first | have tx_54 := ti_mulc ex_54 kc10 (by omega) (by omega) | skip
            refine lv_iload_n G0.1 G0.2.1 dX1_write_46 rfl (lv_at hl 1 rfl) ?_
            refine lv_iadd G0.1 G0.2.1 dX1_write_47 ?_
            refine lv_topi (fun x_55 ex_55 => ?_)
            first | have tx_55 := ti_add ex_55 (by omega) (by omega) | skip
            refine lv_iload_n G0.1 G0.2.1 dX1_write_48 rfl (lv_at hl 0 rfl) ?_
            have jn_62 : ∀ (v_56 : Int32) (H_j62 : Heap) (locs : List Loc) (ls : Array Slot), py_W E (va_A (va_pl L f) s.heap.size) s L_j12 f_j12 H_j62 locs → lv_has ls 4 [(3, .int v_49), (2, .int v_8), (0, .ref h), (1, .ref o)] → W p l e (headSpec w_X1_write ({ frames := 0, cells := 0, slots := 0, locals := 0 })).room s m ([.ref h, .ref o] : List Value).toArray below meth c H_j62 locs 0 0 (MQ below (py_Qv E L f s.heap.size (fun L1 f1 => WF E G L1 f1 ∧ RP E G f f1 ∧ KP G [2, 31] false f f1)) ([.ref h, .ref o] : List Value).toArray s 0 0 (va_A (va_pl L f) s.heap.size)) (F0 m 62 ls [.int v_56, .int x_55, .ref (G.2 h 0)]) := by
              intro v_56 H_j62 locs ls hw hl
              obtain ⟨g_57, ha_58, hi_59⟩ := wf_arr (n := 600) (lo := (-2147483648)) (hi := 2147483647) hWF t_1 (by decide) (fun _ => rfl)
              have rg_60 : vp_in x_55 600 := ti_in (by omega) (by omega)
              refine py_iast G0 hw ha_58 rg_60 dX1_write_62 (fun f_61 H_62 locs h_63 x_64 hw => ?_)
              have hKP := hKP.upd hWF x_64 t_1 (Or.inl (by decide))
              have hRP := hRP.trans (rp_upd hG hWF x_64 ha_58.2 h_63.2 (rp_code hG t_1 (by decide)) rfl)
              have hi_65 := wf_inu (k := (x_55 : Int32).toNatClampNeg) (x := v_56) hi_59 (wf_free v_56).1 (wf_free v_56).2
              have hWF := wf_upd hWF h_63 x_64 (by rw [t_1]; exact ⟨_, rfl, hi_65⟩)
              have hr_34 := hr_34.ext x_64 (py_ne_arr hr_34 ha_58)
              have hr_47 := hr_47.ext x_64 (py_ne_arr hr_47 ha_58)
              have tq_66 := va_eq hr_47
              have hr_52 := hr_52.ext x_64 (py_ne_arr hr_52 ha_58)
              have tq_67 := dy_eq hr_52
              refine lv_aload_n G0.1 G0.2.1 dX1_write_63 rfl (lv_at hl 2 rfl) ?_
              refine py_get (C := RX1) (T := TX1) (N := 3) (k := 1) (v := .ref (G.2 h 1)) G0 hw in_X1_write_X1 rfl hr_52 (by decide) (by decide +kernel) rfl dX1_write_64 ?_
              refine lv_aload_n G0.1 G0.2.1 dX1_write_67 rfl (lv_at hl 2 rfl) ?_
              refine py_get (C := RX1) (T := TX1) (N := 3) (k := 2) (v := .int v_50) G0 hw in_X1_write_X1 rfl hr_52 (by decide) (by decide +kernel) rfl dX1_write_68 ?_
              refine lv_bipush (v := 10) G0.1 G0.2.1 dX1_write_71 (by decide) ?_
              refine lv_imul G0.1 G0.2.1 dX1_write_73 ?_
              refine lv_topi (fun x_68 ex_68 => ?_)
              first | have tx_68 := ti_mulc ex_68 kc10 (by omega) (by omega) | skip
              refine lv_iload_n G0.1 G0.2.1 dX1_write_74 rfl (lv_at hl 1 rfl) ?_
              refine lv_iadd G0.1 G0.2.1 dX1_write_75 ?_
              refine lv_topi (fun x_69 ex_69 => ?_)
              first | have tx_69 := ti_add ex_69 (by omega) (by omega) | skip
              refine lv_iload_n G0.1 G0.2.1 dX1_write_76 rfl (lv_at hl 0 rfl) ?_
              have jn_90 : ∀ (v_70 : Int32) (H_j90 : Heap) (locs : List Loc) (ls : Array Slot), py_W E (va_A (va_pl L f) s.heap.size) s L_j12 f_61 H_j90 locs → lv_has ls 4 [(3, .int v_49), (2, .int v_8), (0, .ref h), (1, .ref o)] → W p l e (headSpec w_X1_write ({ frames := 0, cells := 0, slots := 0, locals := 0 })).room s m ([.ref h, .ref o] : List Value).toArray below meth c H_j90 locs 0 0 (MQ below (py_Qv E L f s.heap.size (fun L1 f1 => WF E G L1 f1 ∧ RP E G f f1 ∧ KP G [2, 31] false f f1)) ([.ref h, .ref o] : List Value).toArray s 0 0 (va_A (va_pl L f) s.heap.size)) (F0 m 90 ls [.int v_70, .int x_69, .ref (G.2 h 1)]) := by
                intro v_70 H_j90 locs ls hw hl
                obtain ⟨g_71, ha_72, hi_73⟩ := wf_arr (n := 600) (lo := (-2147483648)) (hi := 2147483647) hWF t_2 (by decide) (fun _ => rfl)
                have rg_74 : vp_in x_69 600 := ti_in (by omega) (by omega)
                refine py_iast G0 hw ha_72 rg_74 dX1_write_90 (fun f_75 H_76 locs h_77 x_78 hw => ?_)
                have hKP := hKP.upd hWF x_78 t_2 (Or.inl (by decide))
                have hRP := hRP.trans (rp_upd hG hWF x_78 ha_72.2 h_77.2 (rp_code hG t_2 (by decide)) rfl)
                have hi_79 := wf_inu (k := (x_69 : Int32).toNatClampNeg) (x := v_70) hi_73 (wf_free v_70).1 (wf_free v_70).2
                have hWF := wf_upd hWF h_77 x_78 (by rw [t_2]; exact ⟨_, rfl, hi_79⟩)
                have hr_34 := hr_34.ext x_78 (py_ne_arr hr_34 ha_72)
                have hr_47 := hr_47.ext x_78 (py_ne_arr hr_47 ha_72)
                have tq_80 := va_eq hr_47
                have hr_52 := hr_52.ext x_78 (py_ne_arr hr_52 ha_72)
                have tq_81 := dy_eq hr_52
                obtain ⟨x_82, ex_82⟩ : ∃ y : Int32, y = v_8 + 1 := ⟨_, rfl⟩
                first | have tx_82 := ti_add ex_82 (by omega) (by omega) | skip
                refine lv_iinc (v := x_82) (lv' := [(2, .int x_82), (3, .int v_49), (0, .ref h), (1, .ref o)]) G0.1 G0.2.1 dX1_write_91 hl (k := 1) rfl (show _ + (1 : Int32) = _ from ex_82.symm) (by decide) rfl (fun ls hl => ?_)
                refine lv_goto (tgt := 12) G0.1 G0.2.1 dX1_write_94 (by decide) ?_
                exact ih_12 ((2147483647 - x_82.toInt).toNat) (by omega) x_82 L_j12 f_75 _ _ ls rfl ⟨by omega, by omega⟩ hWF hRP hKP (by first | omega | (intros; omega)) hw (lv_sub hl [0, 2, 3] rfl)
              refine lv_if_eq (tgt := 89) G0.1 G0.2.1 dX1_write_77 (by decide) (fun c_83 => ?_) (fun c_83 => ?_)
              · skip
                have tc_83 := ti_eq c_83
                refine lv_iconst (v := 0) G0.1 G0.2.1 dX1_write_89 (by decide) ?_
                exact jn_90 0 _ _ ls hw (lv_sub hl [0, 1, 2, 3] rfl)
              · skip
                have tc_83 := ti_ne c_83
                refine lv_aload_n G0.1 G0.2.1 dX1_write_80 rfl (lv_at hl 3 rfl) ?_
                refine py_get (C := RX2) (T := TX2) (N := 12) (k := 0) (v := .ref (G.2 o 0)) G0 hw in_X1_write_X2 rfl hr_34 (by decide) (by decide +kernel) rfl dX1_write_81 ?_
                refine lv_iload_n G0.1 G0.2.1 dX1_write_84 rfl (lv_at hl 1 rfl) ?_
                obtain ⟨g_84, ha_85, hi_86⟩ := wf_arr (n := 10) (lo := 0) (hi := 20) hWF t_20 (by omega) (wf_own0 E G _ o)
                have rg_87 : vp_in v_8 10 := ti_in (by omega) (by omega)
                refine py_iald G0 hw ha_85 rg_87 dX1_write_85 ?_
                refine lv_topi (fun x_88 ex_88 => ?_)
                have bx_88 := ti_at hi_86 rg_87 ex_88
                refine lv_goto (tgt := 90) G0.1 G0.2.1 dX1_write_86 (by decide) ?_
                exact jn_90 x_88 _ _ ls hw (lv_sub hl [0, 1, 2, 3] rfl)
            refine lv_if_eq (tgt := 61) G0.1 G0.2.1 dX1_write_49 (by decide) (fun c_89 => ?_) (fun c_89 => ?_)
            · skip
              have tc_89 := ti_eq c_89
              refine lv_iconst (v := (-1)) G0.1 G0.2.1 dX1_write_61 (by decide) ?_
              exact jn_62 (-1) _ _ ls hw (lv_sub hl [0, 1, 2, 3] rfl)
            · skip
              have tc_89 := ti_ne c_89
              refine lv_aload_n G0.1 G0.2.1 dX1_write_52 rfl (lv_at hl 3 rfl) ?_
              refine py_get (C := RX2) (T := TX2) (N := 12) (k := 1) (v := .ref (G.2 o 1)) G0 hw in_X1_write_X2 rfl hr_34 (by decide) (by decide +kernel) rfl dX1_write_53 ?_
              refine lv_iload_n G0.1 G0.2.1 dX1_write_56 rfl (lv_at hl 1 rfl) ?_
              obtain ⟨g_90, ha_91, hi_92⟩ := wf_arr (n := 10) (lo := (-1)) (hi := 7) hWF t_21 (by omega) (wf_own1 E G _ o)
              have rg_93 : vp_in v_8 10 := ti_in (by omega) (by omega)
              refine py_iald G0 hw ha_91 rg_93 dX1_write_57 ?_
              refine lv_topi (fun x_94 ex_94 => ?_)
              have bx_94 := ti_at hi_92 rg_93 ex_94
              refine lv_goto (tgt := 62) G0.1 G0.2.1 dX1_write_58 (by decide) ?_
              exact jn_62 x_94 _ _ ls hw (lv_sub hl [0, 1, 2, 3] rfl)
          refine lv_icmp_ge (tgt := 33) G0.1 G0.2.1 dX1_write_26 (by decide) (fun c_95 => ?_) (fun c_95 => ?_)
          · skip
            have tc_95 := ti_le c_95
            refine lv_iconst (v := 0) G0.1 G0.2.1 dX1_write_33 (by decide) ?_
            exact jn_34 0 _ _ ls ⟨by omega, by omega⟩ hw (lv_sub hl [0, 1, 2] rfl)
          · skip
            have tc_95 := ti_nle c_95
            refine lv_iconst (v := 1) G0.1 G0.2.1 dX1_write_29 (by decide) ?_
            refine lv_goto (tgt := 34) G0.1 G0.2.1 dX1_write_30 (by decide) ?_
            exact jn_34 1 _ _ ls ⟨by omega, by omega⟩ hw (lv_sub hl [0, 1, 2] rfl)
    exact lo_12 _ 0 L f _ _ ls rfl ⟨by omega, by omega⟩ hWF hRP hKP (by first | omega | (intros; omega)) hw (lv_sub hl [0, 1, 2] rfl)
  · skip
    have tc_7 := ti_nlt c_7
    exact py_vret G0 hr hlk hw ⟨hWF, hRP, hKP⟩ dX1_write_9

def w_X7_drawBorn : List Cond := .code yX7_drawBorn cX7_drawBorn 2 (some .int) :: ([Cond.methodLink RX7 100 yX2_draw, Cond.instanceMethod yX2_draw, Cond.selects RX2 yX2_draw yX2_draw, Cond.initialized RX2, Cond.fieldLink RX7 33 "HeadYear$Folk" "valley" "LHeadYear$Valley;", Cond.fieldLink RX7 103 "HeadYear$Valley" "birth" "[I", Cond.fieldLink RX7 106 "HeadYear$Valley" "twin" "[I"] ++ (u_ws RX2 TX2 12 ++ (u_ws RX9 TX9 10 ++ (w_X2_draw ++ ([])))))
theorem in_X7_drawBorn_X2 : ∀ w ∈ u_ws RX2 TX2 12, w ∈ w_X7_drawBorn := fun _ h => List.mem_cons_of_mem _ (List.mem_append_right _ (List.mem_append_left _ h))
theorem in_X7_drawBorn_X9 : ∀ w ∈ u_ws RX9 TX9 10, w ∈ w_X7_drawBorn := fun _ h => List.mem_cons_of_mem _ (List.mem_append_right _ (List.mem_append_right _ (List.mem_append_left _ h)))
theorem gg_X7_drawBorn_X2_draw : GoodIn w_X7_drawBorn w_X2_draw := goodIn_sub (fun _ h => List.mem_cons_of_mem _ (List.mem_append_right _ (List.mem_append_right _ (List.mem_append_right _ (List.mem_append_left _ h))))) (by decide +kernel)
theorem g_X7_drawBorn_X2_draw_100 : GoodIn w_X7_drawBorn (wsV RX7 100 RX2 yX2_draw w_X2_draw) := goodIn_app (goodIn_of _ (by decide +kernel)) gg_X7_drawBorn_X2_draw
set_option maxHeartbeats 4000000 in
set_option maxRecDepth 100000 in
theorem c_X7_drawBorn (l : Launch) (E : py_E) (G : wf_G) (L : List Nat) (f : py_F) (sz : Nat) (h : Nat) (a : Int32) (hG : GT G) (hWF : WF E G L f) (Th : G.1 h = 3) (Ba : (0 ≤ a.toInt ∧ a.toInt ≤ 9)) : Met l yX7_drawBorn w_X7_drawBorn ({ frames := 1, cells := 0, slots := 0, locals := 21 }) (py_Pc E [.ref h, .int a] L f sz) (py_Qi E L f sz (fun r L1 f1 => (0 ≤ r.toInt ∧ r.toInt ≤ 2) ∧ WF E G L1 f1 ∧ RP E G f f1 ∧ KP G [3] false f f1)) 0 0 (va_A (va_pl L f) sz) := by
  refine Met.ofW (cc := cX7_drawBorn) (maxL := 2) (ret := (some .int)) (by decide) rfl ?_
  intro p e s m args below meth c s₁ B hml hv
  obtain ⟨rfl, rfl, hw⟩ := py_start hv
  have G0 : CallFix p m c cX7_drawBorn 2 s _ w_X7_drawBorn RX7 := ⟨B.exec, B.bytes, hml, findClass_of_methodNamed B.named, atoms_spec (ws := w_X7_drawBorn) B.pre⟩
  have hr := B.returns
  have hlk := B.notSynchronized
  have kcm1 : (-1 : Int32).toInt = -1 := rfl
  have kc0 : (0 : Int32).toInt = 0 := rfl
  have kc1 : (1 : Int32).toInt = 1 := rfl
  have kc2 : (2 : Int32).toInt = 2 := rfl
  have kc100 : (100 : Int32).toInt = 100 := rfl
  have hl := lv_entry ([.ref h, .int a]) (n := 2) (Nat.le_of_ble_eq_true rfl)
  rw [lg_entry_eq]
  generalize (lg_sl ([.ref h, .int a]) ++ List.replicate (2 - (lg_sl ([.ref h, .int a])).length) Slot.unset).toArray = ls at hl ⊢
  have hl : lv_has ls 2 [(0, .ref h), (1, .int a)] := hl
  have hRP : RP E G f f := RP.refl
  have hKP : KP G [3] false f f := KP.refl
  refine lv_aload_n G0.1 G0.2.1 dX7_drawBorn_0 rfl (lv_at hl 0 rfl) ?_
  refine lv_bipush (v := 100) G0.1 G0.2.1 dX7_drawBorn_1 (by decide) ?_
  obtain ⟨t_1, t_2, t_3, t_4, t_5, t_6, t_7, t_8, t_9⟩ := wt_2 hG Th
  obtain ⟨r_10, y_11, v_12, hr_15, ty_13, b_14⟩ := wg_2 hWF Th
  refine py_calli hw (va_runV (As := [.int 100]) (rest := []) G0 (c_X2_draw l E G L f s.heap.size h 100 hG hWF Th) (cwV 1 G0.2.2.2.2 g_X7_drawBorn_X2_draw_100 rfl rfl rfl (by decide +kernel) ⟨(Nat.le_of_ble_eq_true rfl), (Nat.le_of_ble_eq_true rfl)⟩) (py_preV hw (C := RX2) (T := TX2) (N := 12) rfl hr_15) rfl rfl hl.1 rfl (lv_room (Nat.le_of_ble_eq_true rfl)) dX7_drawBorn_3 ⟨(Nat.le_of_ble_eq_true rfl), (Nat.le_of_ble_eq_true rfl)⟩) (fun r_20 L_16 f_17 H_18 locs hp_19 hw => ?_)
  obtain ⟨hWF, hq_21, kp_22⟩ := hp_19
  have hRP := hRP.trans hq_21
  have hKP := hKP.trans kp_22 (by decide) (by decide)
  have br_20 := wf_free r_20
  refine lv_aload_n G0.1 G0.2.1 dX7_drawBorn_6 rfl (lv_at hl 0 rfl) ?_
  obtain ⟨r_23, y_24, v_25, hr_28, ty_26, b_27⟩ := wg_2 hWF Th
  refine py_get (C := RX2) (T := TX2) (N := 12) (k := 9) (v := .ref r_23) G0 hw in_X7_drawBorn_X2 rfl hr_28 (by decide) (by decide +kernel) rfl dX7_drawBorn_7 ?_
  obtain ⟨t_29, t_30, t_31, t_32, t_33, t_34, t_35, t_36⟩ := wt_9 hG ty_26
  obtain ⟨v_37, v_38, hr_41, b_39, b_40⟩ := wg_9 hWF ty_26
  have tq_42 := va_eq hr_41
  refine py_get (C := RX9) (T := TX9) (N := 10) (k := 6) (v := .ref (G.2 r_23 6)) G0 hw in_X7_drawBorn_X9 rfl hr_41 (by decide) (by decide +kernel) rfl dX7_drawBorn_10 ?_
  refine lv_iload_n G0.1 G0.2.1 dX7_drawBorn_13 rfl (lv_at hl 1 rfl) ?_
  obtain ⟨g_43, ha_44, hi_45⟩ := wf_arr (n := 10) (lo := (-2147483648)) (hi := 2147483647) hWF t_35 (by decide) (fun _ => rfl)
  have rg_46 : vp_in a 10 := ti_in (by omega) (by omega)
  refine py_iald G0 hw ha_44 rg_46 dX7_drawBorn_14 ?_
  refine lv_topi (fun x_47 ex_47 => ?_)
  have bx_47 := wf_free x_47
  refine lv_icmp_lt (tgt := 20) G0.1 G0.2.1 dX7_drawBorn_15 (by decide) (fun c_48 => ?_) (fun c_48 => ?_)
  · skip
    have tc_48 := ti_lt c_48
    refine lv_aload_n G0.1 G0.2.1 dX7_drawBorn_20 rfl (lv_at hl 0 rfl) ?_
    refine lv_bipush (v := 100) G0.1 G0.2.1 dX7_drawBorn_21 (by decide) ?_
    refine py_calli hw (va_runV (As := [.int 100]) (rest := []) G0 (c_X2_draw l E G L_16 f_17 H_18.size h 100 hG hWF Th) (cwV 1 G0.2.2.2.2 g_X7_drawBorn_X2_draw_100 rfl rfl rfl (by decide +kernel) ⟨(Nat.le_of_ble_eq_true rfl), (Nat.le_of_ble_eq_true rfl)⟩) (py_preV hw (C := RX2) (T := TX2) (N := 12) rfl hr_28) rfl rfl hl.1 rfl (lv_room (Nat.le_of_ble_eq_true rfl)) dX7_drawBorn_23 ⟨(Nat.le_of_ble_eq_true rfl), (Nat.le_of_ble_eq_true rfl)⟩) (fun r_53 L_49 f_50 H_51 locs hp_52 hw => ?_)
    obtain ⟨hWF, hq_54, kp_55⟩ := hp_52
    have hRP := hRP.trans hq_54
    have hKP := hKP.trans kp_55 (by decide) (by decide)
    have hr_41 := kp_at kp_55 hWF ty_26 (by decide) (by decide) (by decide) hr_41
    have tq_56 := va_eq hr_41
    have ha_44 := kp_at kp_55 hWF t_35 (by decide) (by decide) (by decide) ha_44
    have br_53 := wf_free r_53
    refine lv_aload_n G0.1 G0.2.1 dX7_drawBorn_26 rfl (lv_at hl 0 rfl) ?_
    obtain ⟨r_57, y_58, v_59, hr_62, ty_60, b_61⟩ := wg_2 hWF Th
    refine py_get (C := RX2) (T := TX2) (N := 12) (k := 9) (v := .ref r_57) G0 hw in_X7_drawBorn_X2 rfl hr_62 (by decide) (by decide +kernel) rfl dX7_drawBorn_27 ?_
    obtain ⟨t_63, t_64, t_65, t_66, t_67, t_68, t_69, t_70⟩ := wt_9 hG ty_60
    obtain ⟨v_71, v_72, hr_75, b_73, b_74⟩ := wg_9 hWF ty_60
    have tq_76 := va_eq hr_75
    refine py_get (C := RX9) (T := TX9) (N := 10) (k := 7) (v := .ref (G.2 r_57 7)) G0 hw in_X7_drawBorn_X9 rfl hr_75 (by decide) (by decide +kernel) rfl dX7_drawBorn_30 ?_
    refine lv_iload_n G0.1 G0.2.1 dX7_drawBorn_33 rfl (lv_at hl 1 rfl) ?_
    obtain ⟨g_77, ha_78, hi_79⟩ := wf_arr (n := 10) (lo := (-2147483648)) (hi := 2147483647) hWF t_70 (by decide) (fun _ => rfl)
    have rg_80 : vp_in a 10 := ti_in (by omega) (by omega)
    refine py_iald G0 hw ha_78 rg_80 dX7_drawBorn_34 ?_
    refine lv_topi (fun x_81 ex_81 => ?_)
    have bx_81 := wf_free x_81
    refine lv_icmp_ge (tgt := 42) G0.1 G0.2.1 dX7_drawBorn_35 (by decide) (fun c_82 => ?_) (fun c_82 => ?_)
    · skip
      have tc_82 := ti_le c_82
      refine lv_iconst (v := 1) G0.1 G0.2.1 dX7_drawBorn_42 (by decide) ?_
      exact py_iret G0 hr rfl hlk hw ⟨⟨by omega, by omega⟩, hWF, hRP, hKP⟩ dX7_drawBorn_43
    · skip
      have tc_82 := ti_nle c_82
      refine lv_iconst (v := 2) G0.1 G0.2.1 dX7_drawBorn_38 (by decide) ?_
      refine lv_goto (tgt := 43) G0.1 G0.2.1 dX7_drawBorn_39 (by decide) ?_
      exact py_iret G0 hr rfl hlk hw ⟨⟨by omega, by omega⟩, hWF, hRP, hKP⟩ dX7_drawBorn_43
  · skip
    have tc_48 := ti_nlt c_48
    refine lv_iconst (v := 0) G0.1 G0.2.1 dX7_drawBorn_18 (by decide) ?_
    exact py_iret G0 hr rfl hlk hw ⟨⟨by omega, by omega⟩, hWF, hRP, hKP⟩ dX7_drawBorn_19

def w_X7_drawCounted : List Cond := .code yX7_drawCounted cX7_drawCounted 4 (some .int) :: ([Cond.fieldLink RX7 112 "HeadYear$Folk" "hushed" "[Z", Cond.methodLink RX7 100 yX2_draw, Cond.instanceMethod yX2_draw, Cond.selects RX2 yX2_draw yX2_draw, Cond.initialized RX2, Cond.fieldLink RX7 25 "HeadYear$Seasons" "find" "I"] ++ (u_ws RX2 TX2 12 ++ (u_ws RX7 TX7 5 ++ (w_X2_draw ++ ([])))))
theorem in_X7_drawCounted_X2 : ∀ w ∈ u_ws RX2 TX2 12, w ∈ w_X7_drawCounted := fun _ h => List.mem_cons_of_mem _ (List.mem_append_right _ (List.mem_append_left _ h))
theorem in_X7_drawCounted_X7 : ∀ w ∈ u_ws RX7 TX7 5, w ∈ w_X7_drawCounted := fun _ h => List.mem_cons_of_mem _ (List.mem_append_right _ (List.mem_append_right _ (List.mem_append_left _ h)))
theorem gg_X7_drawCounted_X2_draw : GoodIn w_X7_drawCounted w_X2_draw := goodIn_sub (fun _ h => List.mem_cons_of_mem _ (List.mem_append_right _ (List.mem_append_right _ (List.mem_append_right _ (List.mem_append_left _ h))))) (by decide +kernel)
theorem g_X7_drawCounted_X2_draw_100 : GoodIn w_X7_drawCounted (wsV RX7 100 RX2 yX2_draw w_X2_draw) := goodIn_app (goodIn_of _ (by decide +kernel)) gg_X7_drawCounted_X2_draw
set_option maxHeartbeats 4000000 in
set_option maxRecDepth 100000 in
theorem c_X7_drawCounted (l : Launch) (E : py_E) (G : wf_G) (L : List Nat) (f : py_F) (sz : Nat) (z : Nat) (h : Nat) (a : Int32) (b : Int32) (hG : GT G) (hWF : WF E G L f) (Tz : G.1 z = 8) (Th : G.1 h = 3) (Ba : (0 ≤ a.toInt ∧ a.toInt ≤ 9)) (Bb : (0 ≤ b.toInt ∧ b.toInt ≤ 2)) : Met l yX7_drawCounted w_X7_drawCounted ({ frames := 1, cells := 0, slots := 0, locals := 21 }) (py_Pc E [.ref z, .ref h, .int a, .int b] L f sz) (py_Qi E L f sz (fun _ L1 f1 => WF E G L1 f1 ∧ RP E G f f1 ∧ KP G [3] false f f1)) 0 0 (va_A (va_pl L f) sz) := by
  refine Met.ofW (cc := cX7_drawCounted) (maxL := 4) (ret := (some .int)) (by decide) rfl ?_
  intro p e s m args below meth c s₁ B hml hv
  obtain ⟨rfl, rfl, hw⟩ := py_start hv
  have G0 : CallFix p m c cX7_drawCounted 4 s _ w_X7_drawCounted RX7 := ⟨B.exec, B.bytes, hml, findClass_of_methodNamed B.named, atoms_spec (ws := w_X7_drawCounted) B.pre⟩
  have hr := B.returns
  have hlk := B.notSynchronized
  have kcm1 : (-1 : Int32).toInt = -1 := rfl
  have kc0 : (0 : Int32).toInt = 0 := rfl
  have kc1 : (1 : Int32).toInt = 1 := rfl
  have kc2 : (2 : Int32).toInt = 2 := rfl
  have kc100 : (100 : Int32).toInt = 100 := rfl
  have hl := lv_entry ([.ref z, .ref h, .int a, .int b]) (n := 4) (Nat.le_of_ble_eq_true rfl)
  rw [lg_entry_eq]
  generalize (lg_sl ([.ref z, .ref h, .int a, .int b]) ++ List.replicate (4 - (lg_sl ([.ref z, .ref h, .int a, .int b])).length) Slot.unset).toArray = ls at hl ⊢
  have hl : lv_has ls 4 [(0, .ref z), (1, .ref h), (2, .int a), (3, .int b)] := hl
  have hRP : RP E G f f := RP.refl
  have hKP : KP G [3] false f f := KP.refl
  refine lv_aload_n G0.1 G0.2.1 dX7_drawCounted_0 rfl (lv_at hl 1 rfl) ?_
  obtain ⟨t_1, t_2, t_3, t_4, t_5, t_6, t_7, t_8, t_9⟩ := wt_2 hG Th
  obtain ⟨r_10, y_11, v_12, hr_15, ty_13, b_14⟩ := wg_2 hWF Th
  refine py_get (C := RX2) (T := TX2) (N := 12) (k := 8) (v := .ref (G.2 h 8)) G0 hw in_X7_drawCounted_X2 rfl hr_15 (by decide) (by decide +kernel) rfl dX7_drawCounted_1 ?_
  refine lv_iload_n G0.1 G0.2.1 dX7_drawCounted_4 rfl (lv_at hl 2 rfl) ?_
  obtain ⟨g_16, ha_17⟩ := wf_z30 hWF t_9
  have rg_18 : vp_in a 10 := ti_in (by omega) (by omega)
  refine py_zald G0 hw ha_17 rg_18 dX7_drawCounted_5 ?_
  refine lv_topi (fun x_19 ex_19 => ?_)
  refine lv_if_eq (tgt := 13) G0.1 G0.2.1 dX7_drawCounted_6 (by decide) (fun c_20 => ?_) (fun c_20 => ?_)
  · skip
    have tc_20 := ti_eq c_20
    refine lv_iload_n G0.1 G0.2.1 dX7_drawCounted_13 rfl (lv_at hl 3 rfl) ?_
    exact py_iret G0 hr rfl hlk hw ⟨hWF, hRP, hKP⟩ dX7_drawCounted_14
  · skip
    have tc_20 := ti_ne c_20
    refine lv_iload_n G0.1 G0.2.1 dX7_drawCounted_9 rfl (lv_at hl 3 rfl) ?_
    refine lv_if_ne (tgt := 15) G0.1 G0.2.1 dX7_drawCounted_10 (by decide) (fun c_21 => ?_) (fun c_21 => ?_)
    · skip
      have tc_21 := ti_ne c_21
      refine lv_aload_n G0.1 G0.2.1 dX7_drawCounted_15 rfl (lv_at hl 1 rfl) ?_
      refine lv_bipush (v := 100) G0.1 G0.2.1 dX7_drawCounted_16 (by decide) ?_
      refine py_calli hw (va_runV (As := [.int 100]) (rest := []) G0 (c_X2_draw l E G L f s.heap.size h 100 hG hWF Th) (cwV 1 G0.2.2.2.2 g_X7_drawCounted_X2_draw_100 rfl rfl rfl (by decide +kernel) ⟨(Nat.le_of_ble_eq_true rfl), (Nat.le_of_ble_eq_true rfl)⟩) (py_preV hw (C := RX2) (T := TX2) (N := 12) rfl hr_15) rfl rfl hl.1 rfl (lv_room (Nat.le_of_ble_eq_true rfl)) dX7_drawCounted_18 ⟨(Nat.le_of_ble_eq_true rfl), (Nat.le_of_ble_eq_true rfl)⟩) (fun r_26 L_22 f_23 H_24 locs hp_25 hw => ?_)
      obtain ⟨hWF, hq_27, kp_28⟩ := hp_25
      have hRP := hRP.trans hq_27
      have hKP := hKP.trans kp_28 (by decide) (by decide)
      have br_26 := wf_free r_26
      refine lv_aload_n G0.1 G0.2.1 dX7_drawCounted_21 rfl (lv_at hl 0 rfl) ?_
      obtain ⟨t_29, t_30, t_31⟩ := wt_7 hG Tz
      obtain ⟨v_32, v_33, hr_35, b_34⟩ := wg_7 hWF Tz
      have bv_32 := wf_free v_32
      refine py_get (C := RX7) (T := TX7) (N := 5) (k := 3) (v := .int v_32) G0 hw in_X7_drawCounted_X7 rfl hr_35 (by decide) (by decide +kernel) rfl dX7_drawCounted_22 ?_
      have jn_35 : ∀ (v_36 : Int32) (H_j35 : Heap) (locs : List Loc) (ls : Array Slot), py_W E (va_A (va_pl L f) s.heap.size) s L_22 f_23 H_j35 locs → lv_has ls 4 [(0, .ref z), (1, .ref h), (2, .int a), (3, .int b)] → W p l e (headSpec w_X7_drawCounted ({ frames := 1, cells := 0, slots := 0, locals := 21 })).room s m ([.ref z, .ref h, .int a, .int b] : List Value).toArray below meth c H_j35 locs 0 0 (MQ below (py_Qi E L f s.heap.size (fun _ L1 f1 => WF E G L1 f1 ∧ RP E G f f1 ∧ KP G [3] false f f1)) ([.ref z, .ref h, .int a, .int b] : List Value).toArray s 0 0 (va_A (va_pl L f) s.heap.size)) (F0 m 35 ls [.int v_36]) := by
        intro v_36 H_j35 locs ls hw hl
        exact py_iret G0 hr rfl hlk hw ⟨hWF, hRP, hKP⟩ dX7_drawCounted_35
      refine lv_icmp_ge (tgt := 34) G0.1 G0.2.1 dX7_drawCounted_25 (by decide) (fun c_37 => ?_) (fun c_37 => ?_)
      · skip
        have tc_37 := ti_le c_37
        refine lv_iconst (v := 0) G0.1 G0.2.1 dX7_drawCounted_34 (by decide) ?_
        exact jn_35 0 _ _ ls hw (lv_sub hl [0, 1, 2, 3] rfl)
      · skip
        have tc_37 := ti_nle c_37
        refine lv_iconst (v := 2) G0.1 G0.2.1 dX7_drawCounted_28 (by decide) ?_
        refine lv_iload_n G0.1 G0.2.1 dX7_drawCounted_29 rfl (lv_at hl 3 rfl) ?_
        refine lv_imul G0.1 G0.2.1 dX7_drawCounted_30 ?_
        refine lv_topi (fun x_38 ex_38 => ?_)
        first | have tx_38 := ti_muld ex_38 kc2 (by omega) (by omega) | skip
        refine lv_goto (tgt := 35) G0.1 G0.2.1 dX7_drawCounted_31 (by decide) ?_
        exact jn_35 x_38 _ _ ls hw (lv_sub hl [0, 1, 2, 3] rfl)
    · skip
      have tc_21 := ti_eq c_21
      refine lv_iload_n G0.1 G0.2.1 dX7_drawCounted_13 rfl (lv_at hl 3 rfl) ?_
      exact py_iret G0 hr rfl hlk hw ⟨hWF, hRP, hKP⟩ dX7_drawCounted_14

def w_X7_nextOf : List Cond := .code yX7_nextOf cX7_nextOf 4 (some .int) :: ([Cond.fieldLink RX7 86 "HeadYear$Folk" "level" "[I", Cond.fieldLink RX7 89 "HeadYear$Folk" "debt" "[I", Cond.fieldLink RX7 33 "HeadYear$Folk" "valley" "LHeadYear$Valley;", Cond.fieldLink RX7 46 "HeadYear$Valley" "families" "I"] ++ (u_ws RX2 TX2 12 ++ (u_ws RX9 TX9 10 ++ ([]))))
theorem in_X7_nextOf_X2 : ∀ w ∈ u_ws RX2 TX2 12, w ∈ w_X7_nextOf := fun _ h => List.mem_cons_of_mem _ (List.mem_append_right _ (List.mem_append_left _ h))
theorem in_X7_nextOf_X9 : ∀ w ∈ u_ws RX9 TX9 10, w ∈ w_X7_nextOf := fun _ h => List.mem_cons_of_mem _ (List.mem_append_right _ (List.mem_append_right _ (List.mem_append_left _ h)))
set_option maxHeartbeats 4000000 in
set_option maxRecDepth 100000 in
theorem c_X7_nextOf (l : Launch) (E : py_E) (G : wf_G) (L : List Nat) (f : py_F) (sz : Nat) (h : Nat) (a : Int32) (hG : GT G) (hWF : WF E G L f) (Th : G.1 h = 3) (Ba : (0 ≤ a.toInt ∧ a.toInt ≤ 9)) : Met l yX7_nextOf w_X7_nextOf ({ frames := 0, cells := 0, slots := 0, locals := 0 }) (py_Pc E [.ref h, .int a] L f sz) (py_Qi E L f sz (fun r L1 f1 => ((-1) ≤ r.toInt ∧ r.toInt ≤ 9) ∧ (r.toInt ≠ -1 → ari f (G.2 h 3) r ≠ 0 ∧ r.toInt < fv_f f h) ∧ L = L1 ∧ f = f1)) 0 0 (va_A (va_pl L f) sz) := by
  refine Met.ofW (cc := cX7_nextOf) (maxL := 4) (ret := (some .int)) (by decide) rfl ?_
  intro p e s m args below meth c s₁ B hml hv
  obtain ⟨rfl, rfl, hw⟩ := py_start hv
  have G0 : CallFix p m c cX7_nextOf 4 s _ w_X7_nextOf RX7 := ⟨B.exec, B.bytes, hml, findClass_of_methodNamed B.named, atoms_spec (ws := w_X7_nextOf) B.pre⟩
  have hr := B.returns
  have hlk := B.notSynchronized
  have kcm1 : (-1 : Int32).toInt = -1 := rfl
  have kc0 : (0 : Int32).toInt = 0 := rfl
  have kc1 : (1 : Int32).toInt = 1 := rfl
  have hl := lv_entry ([.ref h, .int a]) (n := 4) (Nat.le_of_ble_eq_true rfl)
  rw [lg_entry_eq]
  generalize (lg_sl ([.ref h, .int a]) ++ List.replicate (4 - (lg_sl ([.ref h, .int a])).length) Slot.unset).toArray = ls at hl ⊢
  have hl : lv_has ls 4 [(0, .ref h), (1, .int a)] := hl
  have hRP : RP E G f f := RP.refl
  refine lv_aload_n G0.1 G0.2.1 dX7_nextOf_0 rfl (lv_at hl 0 rfl) ?_
  obtain ⟨t_1, t_2, t_3, t_4, t_5, t_6, t_7, t_8, t_9⟩ := wt_2 hG Th
  obtain ⟨r_10, y_11, v_12, hr_15, ty_13, b_14⟩ := wg_2 hWF Th
  have tq_16 := fo_eq hr_15
  refine py_get (C := RX2) (T := TX2) (N := 12) (k := 1) (v := .ref (G.2 h 1)) G0 hw in_X7_nextOf_X2 rfl hr_15 (by decide) (by decide +kernel) rfl dX7_nextOf_1 ?_
  refine lv_iload_n G0.1 G0.2.1 dX7_nextOf_4 rfl (lv_at hl 1 rfl) ?_
  obtain ⟨g_17, ha_18, hi_19⟩ := wf_arr (n := 10) (lo := (-1)) (hi := 7) hWF t_2 (by omega) (wf_own1 E G _ h)
  have rg_20 : vp_in a 10 := ti_in (by omega) (by omega)
  refine py_iald G0 hw ha_18 rg_20 dX7_nextOf_5 ?_
  refine lv_topi (fun x_21 ex_21 => ?_)
  have bx_21 := ti_at hi_19 rg_20 ex_21
  have qx_21 := ari_ld ha_18 ex_21
  refine lv_aload_n G0.1 G0.2.1 dX7_nextOf_6 rfl (lv_at hl 0 rfl) ?_
  refine py_get (C := RX2) (T := TX2) (N := 12) (k := 3) (v := .ref (G.2 h 3)) G0 hw in_X7_nextOf_X2 rfl hr_15 (by decide) (by decide +kernel) rfl dX7_nextOf_7 ?_
  refine lv_iload_n G0.1 G0.2.1 dX7_nextOf_10 rfl (lv_at hl 1 rfl) ?_
  obtain ⟨g_22, ha_23, hi_24⟩ := wf_arr (n := 10) (lo := (-2147483648)) (hi := 2147483647) hWF t_4 (by decide) (fun _ => rfl)
  have rg_25 : vp_in a 10 := ti_in (by omega) (by omega)
  refine py_iald G0 hw ha_23 rg_25 dX7_nextOf_11 ?_
  refine lv_topi (fun x_26 ex_26 => ?_)
  have bx_26 := wf_free x_26
  have qx_26 := ari_ld ha_23 ex_26
  refine lv_iadd G0.1 G0.2.1 dX7_nextOf_12 ?_
  refine lv_topi (fun x_27 ex_27 => ?_)
  first | have tx_27 := ti_add ex_27 (by omega) (by omega) | skip
  refine lv_istore_n (lv' := [(2, .int x_27), (0, .ref h), (1, .int a)]) G0.1 G0.2.1 dX7_nextOf_13 rfl hl (by decide) rfl (fun ls hl => ?_)
  refine lv_iconst (v := 0) G0.1 G0.2.1 dX7_nextOf_14 (by decide) ?_
  refine lv_istore_n (lv' := [(3, .int 0), (2, .int x_27), (0, .ref h), (1, .int a)]) G0.1 G0.2.1 dX7_nextOf_15 rfl hl (by decide) rfl (fun ls hl => ?_)
  have lo_16 : ∀ n_16 : Nat, ∀ (v_28 : Int32) (H_j16 : Heap) (locs : List Loc) (ls : Array Slot), (2147483647 - v_28.toInt).toNat = n_16 → (0 ≤ v_28.toInt ∧ v_28.toInt ≤ 2147483647) → py_W E (va_A (va_pl L f) s.heap.size) s L f H_j16 locs → lv_has ls 4 [(3, .int v_28), (2, .int x_27), (0, .ref h), (1, .int a)] → W p l e (headSpec w_X7_nextOf ({ frames := 0, cells := 0, slots := 0, locals := 0 })).room s m ([.ref h, .int a] : List Value).toArray below meth c H_j16 locs 0 0 (MQ below (py_Qi E L f s.heap.size (fun r L1 f1 => ((-1) ≤ r.toInt ∧ r.toInt ≤ 9) ∧ (r.toInt ≠ -1 → ari f (G.2 h 3) r ≠ 0 ∧ r.toInt < fv_f f h) ∧ L = L1 ∧ f = f1)) ([.ref h, .int a] : List Value).toArray s 0 0 (va_A (va_pl L f) s.heap.size)) (F0 m 16 ls []) := by
    intro n_16
    induction n_16 using Nat.strongRecOn with
    | _ n_16 ih_16 =>
      intro v_28 H_j16 locs ls hn_16 bv_28 hw hl
      refine lv_iload_n G0.1 G0.2.1 dX7_nextOf_16 rfl (lv_at hl 0 rfl) ?_
      refine lv_aload_n G0.1 G0.2.1 dX7_nextOf_17 rfl (lv_at hl 2 rfl) ?_
      refine py_get (C := RX2) (T := TX2) (N := 12) (k := 9) (v := .ref r_10) G0 hw in_X7_nextOf_X2 rfl hr_15 (by decide) (by decide +kernel) rfl dX7_nextOf_18 ?_
      obtain ⟨t_29, t_30, t_31, t_32, t_33, t_34, t_35, t_36⟩ := wt_9 hG ty_13
      obtain ⟨v_37, v_38, hr_41, b_39, b_40⟩ := wg_9 hWF ty_13
      have tq_42 := va_eq hr_41
      refine py_get (C := RX9) (T := TX9) (N := 10) (k := 9) (v := .int v_38) G0 hw in_X7_nextOf_X9 rfl hr_41 (by decide) (by decide +kernel) rfl dX7_nextOf_21 ?_
      refine lv_icmp_ge (tgt := 54) G0.1 G0.2.1 dX7_nextOf_24 (by decide) (fun c_43 => ?_) (fun c_43 => ?_)
      · skip
        have tc_43 := ti_le c_43
        refine lv_iconst (v := (-1)) G0.1 G0.2.1 dX7_nextOf_54 (by decide) ?_
        exact py_iret G0 hr rfl hlk hw ⟨⟨by omega, by omega⟩, (by first | omega | (intro q; omega)), rfl, rfl⟩ dX7_nextOf_55
      · skip
        have tc_43 := ti_nle c_43
        refine lv_aload_n G0.1 G0.2.1 dX7_nextOf_27 rfl (lv_at hl 2 rfl) ?_
        refine py_get (C := RX2) (T := TX2) (N := 12) (k := 1) (v := .ref (G.2 h 1)) G0 hw in_X7_nextOf_X2 rfl hr_15 (by decide) (by decide +kernel) rfl dX7_nextOf_28 ?_
        refine lv_iload_n G0.1 G0.2.1 dX7_nextOf_31 rfl (lv_at hl 0 rfl) ?_
        have rg_44 : vp_in v_28 10 := ti_in (by omega) (by omega)
        refine py_iald G0 hw ha_18 rg_44 dX7_nextOf_32 ?_
        refine lv_topi (fun x_45 ex_45 => ?_)
        have bx_45 := ti_at hi_19 rg_44 ex_45
        have qx_45 := ari_ld ha_18 ex_45
        refine lv_iload_n G0.1 G0.2.1 dX7_nextOf_33 rfl (lv_at hl 1 rfl) ?_
        refine lv_icmp_ne (tgt := 48) G0.1 G0.2.1 dX7_nextOf_34 (by decide) (fun c_46 => ?_) (fun c_46 => ?_)
        · skip
          have tc_46 := ti_ne c_46
          obtain ⟨x_47, ex_47⟩ : ∃ y : Int32, y = v_28 + 1 := ⟨_, rfl⟩
          first | have tx_47 := ti_add ex_47 (by omega) (by omega) | skip
          refine lv_iinc (v := x_47) (lv' := [(3, .int x_47), (2, .int x_27), (0, .ref h), (1, .int a)]) G0.1 G0.2.1 dX7_nextOf_48 hl (k := 0) rfl (show _ + (1 : Int32) = _ from ex_47.symm) (by decide) rfl (fun ls hl => ?_)
          refine lv_goto (tgt := 16) G0.1 G0.2.1 dX7_nextOf_51 (by decide) ?_
          exact ih_16 ((2147483647 - x_47.toInt).toNat) (by omega) x_47 _ _ ls rfl ⟨by omega, by omega⟩ hw (lv_sub hl [0, 1, 2, 3] rfl)
        · skip
          have tc_46 := ti_eq c_46
          refine lv_aload_n G0.1 G0.2.1 dX7_nextOf_37 rfl (lv_at hl 2 rfl) ?_
          refine py_get (C := RX2) (T := TX2) (N := 12) (k := 3) (v := .ref (G.2 h 3)) G0 hw in_X7_nextOf_X2 rfl hr_15 (by decide) (by decide +kernel) rfl dX7_nextOf_38 ?_
          refine lv_iload_n G0.1 G0.2.1 dX7_nextOf_41 rfl (lv_at hl 0 rfl) ?_
          have rg_48 : vp_in v_28 10 := ti_in (by omega) (by omega)
          refine py_iald G0 hw ha_23 rg_48 dX7_nextOf_42 ?_
          refine lv_topi (fun x_49 ex_49 => ?_)
          have bx_49 := wf_free x_49
          have qx_49 := ari_ld ha_23 ex_49
          refine lv_if_eq (tgt := 48) G0.1 G0.2.1 dX7_nextOf_43 (by decide) (fun c_50 => ?_) (fun c_50 => ?_)
          · skip
            have tc_50 := ti_eq c_50
            obtain ⟨x_51, ex_51⟩ : ∃ y : Int32, y = v_28 + 1 := ⟨_, rfl⟩
            first | have tx_51 := ti_add ex_51 (by omega) (by omega) | skip
            refine lv_iinc (v := x_51) (lv' := [(3, .int x_51), (2, .int x_27), (0, .ref h), (1, .int a)]) G0.1 G0.2.1 dX7_nextOf_48 hl (k := 0) rfl (show _ + (1 : Int32) = _ from ex_51.symm) (by decide) rfl (fun ls hl => ?_)
            refine lv_goto (tgt := 16) G0.1 G0.2.1 dX7_nextOf_51 (by decide) ?_
            exact ih_16 ((2147483647 - x_51.toInt).toNat) (by omega) x_51 _ _ ls rfl ⟨by omega, by omega⟩ hw (lv_sub hl [0, 1, 2, 3] rfl)
          · skip
            have tc_50 := ti_ne c_50
            refine lv_iload_n G0.1 G0.2.1 dX7_nextOf_46 rfl (lv_at hl 0 rfl) ?_
            exact py_iret G0 hr rfl hlk hw ⟨⟨by omega, by omega⟩, (by first | omega | (intro q; omega)), rfl, rfl⟩ dX7_nextOf_47
  exact lo_16 _ 0 _ _ ls rfl ⟨by omega, by omega⟩ hw (lv_sub hl [0, 1, 2, 3] rfl)

def w_X7_metTwice : List Cond := .code yX7_metTwice cX7_metTwice 5 (some .int) :: ([Cond.methodLink RX7 149 yX7_nextOf, Cond.static yX7_nextOf, Cond.initialized RX7] ++ (w_X7_nextOf ++ ([])))
theorem gg_X7_metTwice_X7_nextOf : GoodIn w_X7_metTwice w_X7_nextOf := goodIn_sub (fun _ h => List.mem_cons_of_mem _ (List.mem_append_right _ (List.mem_append_left _ h))) (by decide +kernel)
theorem g_X7_metTwice_X7_nextOf_149 : GoodIn w_X7_metTwice (va_wsS RX7 149 yX7_nextOf w_X7_nextOf) := goodIn_app (goodIn_of _ (by decide +kernel)) gg_X7_metTwice_X7_nextOf
set_option maxHeartbeats 4000000 in
set_option maxRecDepth 100000 in
theorem c_X7_metTwice (l : Launch) (E : py_E) (G : wf_G) (L : List Nat) (f : py_F) (sz : Nat) (h : Nat) (a : Int32) (hG : GT G) (hWF : WF E G L f) (Th : G.1 h = 3) (Ba : (0 ≤ a.toInt ∧ a.toInt ≤ 9)) (hp0 : ari f (G.2 h 3) a ≠ 0 ∧ a.toInt < fv_f f h) : Met l yX7_metTwice w_X7_metTwice ({ frames := 1, cells := 0, slots := 0, locals := 23 }) (py_Pc E [.ref h, .int a] L f sz) (py_Qi E L f sz (fun r L1 f1 => ((-1) ≤ r.toInt ∧ r.toInt ≤ 9) ∧ (r.toInt ≠ -1 → ari f (G.2 h 3) r ≠ 0 ∧ r.toInt < fv_f f h) ∧ L = L1 ∧ f = f1)) 0 0 (va_A (va_pl L f) sz) := by
  refine Met.ofW (cc := cX7_metTwice) (maxL := 5) (ret := (some .int)) (by decide) rfl ?_
  intro p e s m args below meth c s₁ B hml hv
  obtain ⟨rfl, rfl, hw⟩ := py_start hv
  have G0 : CallFix p m c cX7_metTwice 5 s _ w_X7_metTwice RX7 := ⟨B.exec, B.bytes, hml, findClass_of_methodNamed B.named, atoms_spec (ws := w_X7_metTwice) B.pre⟩
  have hr := B.returns
  have hlk := B.notSynchronized
  have kcm1 : (-1 : Int32).toInt = -1 := rfl
  have kc0 : (0 : Int32).toInt = 0 := rfl
  have kc1 : (1 : Int32).toInt = 1 := rfl
  have kc10 : (10 : Int32).toInt = 10 := rfl
  have hl := lv_entry ([.ref h, .int a]) (n := 5) (Nat.le_of_ble_eq_true rfl)
  rw [lg_entry_eq]
  generalize (lg_sl ([.ref h, .int a]) ++ List.replicate (5 - (lg_sl ([.ref h, .int a])).length) Slot.unset).toArray = ls at hl ⊢
  have hl : lv_has ls 5 [(0, .ref h), (1, .int a)] := hl
  have hRP : RP E G f f := RP.refl
  refine lv_iconst (v := 0) G0.1 G0.2.1 dX7_metTwice_0 (by decide) ?_
  refine lv_istore_n (lv' := [(2, .int 0), (0, .ref h), (1, .int a)]) G0.1 G0.2.1 dX7_metTwice_1 rfl hl (by decide) rfl (fun ls hl => ?_)
  refine lv_iload_n G0.1 G0.2.1 dX7_metTwice_2 rfl (lv_at hl 2 rfl) ?_
  refine lv_istore_n (lv' := [(3, .int a), (2, .int 0), (0, .ref h), (1, .int a)]) G0.1 G0.2.1 dX7_metTwice_3 rfl hl (by decide) rfl (fun ls hl => ?_)
  refine lv_iconst (v := 0) G0.1 G0.2.1 dX7_metTwice_4 (by decide) ?_
  refine lv_istore (lv' := [(4, .int 0), (3, .int a), (2, .int 0), (0, .ref h), (1, .int a)]) G0.1 G0.2.1 dX7_metTwice_5 hl (by decide) rfl (fun ls hl => ?_)
  have lo_7 : ∀ n_7 : Nat, ∀ (v_1 : Int32) (v_2 : Int32) (v_3 : Int32) (H_j7 : Heap) (locs : List Loc) (ls : Array Slot), (2147483647 - v_1.toInt).toNat = n_7 → (0 ≤ v_1.toInt ∧ v_1.toInt ≤ 2147483647) → ((-1) ≤ v_2.toInt ∧ v_2.toInt ≤ 9) → (v_2.toInt ≠ -1 → ari f (G.2 h 3) v_2 ≠ 0 ∧ v_2.toInt < fv_f f h) → py_W E (va_A (va_pl L f) s.heap.size) s L f H_j7 locs → lv_has ls 5 [(4, .int v_1), (3, .int v_2), (2, .int v_3), (0, .ref h), (1, .int a)] → W p l e (headSpec w_X7_metTwice ({ frames := 1, cells := 0, slots := 0, locals := 23 })).room s m ([.ref h, .int a] : List Value).toArray below meth c H_j7 locs 0 0 (MQ below (py_Qi E L f s.heap.size (fun r L1 f1 => ((-1) ≤ r.toInt ∧ r.toInt ≤ 9) ∧ (r.toInt ≠ -1 → ari f (G.2 h 3) r ≠ 0 ∧ r.toInt < fv_f f h) ∧ L = L1 ∧ f = f1)) ([.ref h, .int a] : List Value).toArray s 0 0 (va_A (va_pl L f) s.heap.size)) (F0 m 7 ls []) := by
    intro n_7
    induction n_7 using Nat.strongRecOn with
    | _ n_7 ih_7 =>
      intro v_1 v_2 v_3 H_j7 locs ls hn_7 bv_1 bv_2 iv0 hw hl
      refine lv_iload G0.1 G0.2.1 dX7_metTwice_7 (lv_at hl 0 rfl) ?_
      refine lv_bipush (v := 10) G0.1 G0.2.1 dX7_metTwice_9 (by decide) ?_
      refine lv_icmp_gt (tgt := 48) G0.1 G0.2.1 dX7_metTwice_11 (by decide) (fun c_4 => ?_) (fun c_4 => ?_)
      · skip
        have tc_4 := ti_lt c_4
        refine lv_iconst (v := (-1)) G0.1 G0.2.1 dX7_metTwice_48 (by decide) ?_
        exact py_iret G0 hr rfl hlk hw ⟨⟨by omega, by omega⟩, (by first | omega | (intro q; omega)), rfl, rfl⟩ dX7_metTwice_49
      · skip
        have tc_4 := ti_nlt c_4
        refine lv_iload_n G0.1 G0.2.1 dX7_metTwice_14 rfl (lv_at hl 1 rfl) ?_
        refine lv_iconst (v := (-1)) G0.1 G0.2.1 dX7_metTwice_15 (by decide) ?_
        refine lv_icmp_eq (tgt := 48) G0.1 G0.2.1 dX7_metTwice_16 (by decide) (fun c_5 => ?_) (fun c_5 => ?_)
        · skip
          have tc_5 := ti_eq c_5
          refine lv_iconst (v := (-1)) G0.1 G0.2.1 dX7_metTwice_48 (by decide) ?_
          exact py_iret G0 hr rfl hlk hw ⟨⟨by omega, by omega⟩, (by first | omega | (intro q; omega)), rfl, rfl⟩ dX7_metTwice_49
        · skip
          have tc_5 := ti_ne c_5
          refine lv_iload_n G0.1 G0.2.1 dX7_metTwice_19 rfl (lv_at hl 2 rfl) ?_
          refine lv_iload_n G0.1 G0.2.1 dX7_metTwice_20 rfl (lv_at hl 1 rfl) ?_
          refine lv_ishr G0.1 G0.2.1 dX7_metTwice_21 ?_
          refine lv_topi (fun x_6 ex_6 => ?_)
          refine lv_iconst (v := 1) G0.1 G0.2.1 dX7_metTwice_22 (by decide) ?_
          refine lv_iand G0.1 G0.2.1 dX7_metTwice_23 ?_
          refine lv_topi (fun x_7 ex_7 => ?_)
          refine lv_iconst (v := 1) G0.1 G0.2.1 dX7_metTwice_24 (by decide) ?_
          refine lv_icmp_ne (tgt := 30) G0.1 G0.2.1 dX7_metTwice_25 (by decide) (fun c_8 => ?_) (fun c_8 => ?_)
          · skip
            have tc_8 := ti_ne c_8
            refine lv_iload_n G0.1 G0.2.1 dX7_metTwice_30 rfl (lv_at hl 2 rfl) ?_
            refine lv_iconst (v := 1) G0.1 G0.2.1 dX7_metTwice_31 (by decide) ?_
            refine lv_iload_n G0.1 G0.2.1 dX7_metTwice_32 rfl (lv_at hl 1 rfl) ?_
            refine lv_ishl G0.1 G0.2.1 dX7_metTwice_33 ?_
            refine lv_topi (fun x_9 ex_9 => ?_)
            first | have bx_9 : 0 ≤ x_9.toInt ∧ x_9.toInt ≤ 512 := (by rcases ti_ten v_2 (by omega) (by omega) with h | h | h | h | h | h | h | h | h | h <;> (rw [ex_9, h]; decide +kernel)) | skip
            refine lv_ior G0.1 G0.2.1 dX7_metTwice_34 ?_
            refine lv_topi (fun x_10 ex_10 => ?_)
            first | have bx_10 := ti_or ex_10 ⟨by omega, by omega⟩ ⟨by omega, by omega⟩ | skip
            refine lv_istore_n (lv' := [(2, .int x_10), (4, .int v_1), (3, .int v_2), (0, .ref h), (1, .int a)]) G0.1 G0.2.1 dX7_metTwice_35 rfl hl (by decide) rfl (fun ls hl => ?_)
            refine lv_aload_n G0.1 G0.2.1 dX7_metTwice_36 rfl (lv_at hl 3 rfl) ?_
            refine lv_iload_n G0.1 G0.2.1 dX7_metTwice_37 rfl (lv_at hl 2 rfl) ?_
            refine py_calli hw (va_runS (As := [.ref h, .int v_2]) (rest := []) G0 (c_X7_nextOf l E G L f H_j7.size h v_2 hG hWF Th ⟨by omega, by omega⟩) (va_cwS 2 G0.2.2.2.2 g_X7_metTwice_X7_nextOf_149 rfl rfl rfl (by decide +kernel) ⟨(Nat.le_of_ble_eq_true rfl), (Nat.le_of_ble_eq_true rfl)⟩) (py_preS hw) rfl rfl hl.1 rfl (lv_room (Nat.le_of_ble_eq_true rfl)) dX7_metTwice_38 ⟨(Nat.le_of_ble_eq_true rfl), (Nat.le_of_ble_eq_true rfl)⟩) (fun r_15 L_11 f_12 H_13 locs hp_14 hw => ?_)
            obtain ⟨b_17, en_16, rfl, rfl⟩ := hp_14
            refine lv_istore_n (lv' := [(3, .int r_15), (2, .int x_10), (4, .int v_1), (0, .ref h), (1, .int a)]) G0.1 G0.2.1 dX7_metTwice_41 rfl hl (by decide) rfl (fun ls hl => ?_)
            obtain ⟨x_18, ex_18⟩ : ∃ y : Int32, y = v_1 + 1 := ⟨_, rfl⟩
            first | have tx_18 := ti_add ex_18 (by omega) (by omega) | skip
            refine lv_iinc (v := x_18) (lv' := [(4, .int x_18), (3, .int r_15), (2, .int x_10), (0, .ref h), (1, .int a)]) G0.1 G0.2.1 dX7_metTwice_42 hl (k := 2) rfl (show _ + (1 : Int32) = _ from ex_18.symm) (by decide) rfl (fun ls hl => ?_)
            refine lv_goto (tgt := 7) G0.1 G0.2.1 dX7_metTwice_45 (by decide) ?_
            exact ih_7 ((2147483647 - x_18.toInt).toNat) (by omega) x_18 r_15 x_10 _ _ ls rfl ⟨by omega, by omega⟩ ⟨by omega, by omega⟩ (by first | omega | (intros; omega)) hw (lv_sub hl [0, 1, 2, 3, 4] rfl)
          · skip
            have tc_8 := ti_eq c_8
            refine lv_iload_n G0.1 G0.2.1 dX7_metTwice_28 rfl (lv_at hl 1 rfl) ?_
            exact py_iret G0 hr rfl hlk hw ⟨⟨by omega, by omega⟩, (by first | omega | (intro q; omega)), rfl, rfl⟩ dX7_metTwice_29
  exact lo_7 _ 0 a 0 _ _ ls rfl ⟨by omega, by omega⟩ ⟨by omega, by omega⟩ (by first | omega | (intros; omega)) hw (lv_sub hl [0, 1, 2, 3, 4] rfl)

def w_X5_wantedFrom : List Cond := .code yX5_wantedFrom cX5_wantedFrom 4 (some .int) :: ([Cond.fieldLink RX5 39 "HeadYear$Folk" "valley" "LHeadYear$Valley;", Cond.fieldLink RX5 43 "HeadYear$Valley" "families" "I", Cond.methodLink RX5 66 yX2_waits, Cond.instanceMethod yX2_waits, Cond.selects RX2 yX2_waits yX2_waits, Cond.initialized RX2, Cond.fieldLink RX5 50 "HeadYear$Folk" "level" "[I", Cond.methodLink RX5 47 yX2_want, Cond.instanceMethod yX2_want, Cond.selects RX2 yX2_want yX2_want] ++ (u_ws RX2 TX2 12 ++ (u_ws RX9 TX9 10 ++ (w_X2_waits ++ (w_X2_want ++ ([]))))))
theorem in_X5_wantedFrom_X2 : ∀ w ∈ u_ws RX2 TX2 12, w ∈ w_X5_wantedFrom := fun _ h => List.mem_cons_of_mem _ (List.mem_append_right _ (List.mem_append_left _ h))
theorem in_X5_wantedFrom_X9 : ∀ w ∈ u_ws RX9 TX9 10, w ∈ w_X5_wantedFrom := fun _ h => List.mem_cons_of_mem _ (List.mem_append_right _ (List.mem_append_right _ (List.mem_append_left _ h)))
theorem gg_X5_wantedFrom_X2_waits : GoodIn w_X5_wantedFrom w_X2_waits := goodIn_sub (fun _ h => List.mem_cons_of_mem _ (List.mem_append_right _ (List.mem_append_right _ (List.mem_append_right _ (List.mem_append_left _ h))))) (by decide +kernel)
theorem gg_X5_wantedFrom_X2_want : GoodIn w_X5_wantedFrom w_X2_want := goodIn_sub (fun _ h => List.mem_cons_of_mem _ (List.mem_append_right _ (List.mem_append_right _ (List.mem_append_right _ (List.mem_append_right _ (List.mem_append_left _ h)))))) (by decide +kernel)
theorem g_X5_wantedFrom_X2_waits_66 : GoodIn w_X5_wantedFrom (wsV RX5 66 RX2 yX2_waits w_X2_waits) := goodIn_app (goodIn_of _ (by decide +kernel)) gg_X5_wantedFrom_X2_waits
theorem g_X5_wantedFrom_X2_want_47 : GoodIn w_X5_wantedFrom (wsV RX5 47 RX2 yX2_want w_X2_want) := goodIn_app (goodIn_of _ (by decide +kernel)) gg_X5_wantedFrom_X2_want
set_option maxHeartbeats 4000000 in
set_option maxRecDepth 100000 in
theorem c_X5_wantedFrom (l : Launch) (E : py_E) (G : wf_G) (L : List Nat) (f : py_F) (sz : Nat) (h : Nat) (a : Int32) (hG : GT G) (hWF : WF E G L f) (Th : G.1 h = 3) : Met l yX5_wantedFrom w_X5_wantedFrom ({ frames := 3, cells := 0, slots := 0, locals := 67 }) (py_Pc E [.ref h, .int a] L f sz) (py_Qi E L f sz (fun _ L1 f1 => L = L1 ∧ f = f1)) 0 0 (va_A (va_pl L f) sz) := by
  refine Met.ofW (cc := cX5_wantedFrom) (maxL := 4) (ret := (some .int)) (by decide) rfl ?_
  intro p e s m args below meth c s₁ B hml hv
  obtain ⟨rfl, rfl, hw⟩ := py_start hv
  have G0 : CallFix p m c cX5_wantedFrom 4 s _ w_X5_wantedFrom RX5 := ⟨B.exec, B.bytes, hml, findClass_of_methodNamed B.named, atoms_spec (ws := w_X5_wantedFrom) B.pre⟩
  have hr := B.returns
  have hlk := B.notSynchronized
  have kcm1 : (-1 : Int32).toInt = -1 := rfl
  have kc0 : (0 : Int32).toInt = 0 := rfl
  have kc1 : (1 : Int32).toInt = 1 := rfl
  have hl := lv_entry ([.ref h, .int a]) (n := 4) (Nat.le_of_ble_eq_true rfl)
  rw [lg_entry_eq]
  generalize (lg_sl ([.ref h, .int a]) ++ List.replicate (4 - (lg_sl ([.ref h, .int a])).length) Slot.unset).toArray = ls at hl ⊢
  have hl : lv_has ls 4 [(0, .ref h), (1, .int a)] := hl
  have hRP : RP E G f f := RP.refl
  refine lv_iconst (v := 0) G0.1 G0.2.1 dX5_wantedFrom_0 (by decide) ?_
  refine lv_istore_n (lv' := [(2, .int 0), (0, .ref h), (1, .int a)]) G0.1 G0.2.1 dX5_wantedFrom_1 rfl hl (by decide) rfl (fun ls hl => ?_)
  refine lv_iconst (v := 0) G0.1 G0.2.1 dX5_wantedFrom_2 (by decide) ?_
  refine lv_istore_n (lv' := [(3, .int 0), (2, .int 0), (0, .ref h), (1, .int a)]) G0.1 G0.2.1 dX5_wantedFrom_3 rfl hl (by decide) rfl (fun ls hl => ?_)
  have lo_4 : ∀ n_4 : Nat, ∀ (v_1 : Int32) (v_2 : Int32) (H_j4 : Heap) (locs : List Loc) (ls : Array Slot), (2147483647 - v_1.toInt).toNat = n_4 → (0 ≤ v_1.toInt ∧ v_1.toInt ≤ 2147483647) → py_W E (va_A (va_pl L f) s.heap.size) s L f H_j4 locs → lv_has ls 4 [(3, .int v_1), (2, .int v_2), (0, .ref h), (1, .int a)] → W p l e (headSpec w_X5_wantedFrom ({ frames := 3, cells := 0, slots := 0, locals := 67 })).room s m ([.ref h, .int a] : List Value).toArray below meth c H_j4 locs 0 0 (MQ below (py_Qi E L f s.heap.size (fun _ L1 f1 => L = L1 ∧ f = f1)) ([.ref h, .int a] : List Value).toArray s 0 0 (va_A (va_pl L f) s.heap.size)) (F0 m 4 ls []) := by
    intro n_4
    induction n_4 using Nat.strongRecOn with
    | _ n_4 ih_4 =>
      intro v_1 v_2 H_j4 locs ls hn_4 bv_1 hw hl
      refine lv_iload_n G0.1 G0.2.1 dX5_wantedFrom_4 rfl (lv_at hl 0 rfl) ?_
      refine lv_aload_n G0.1 G0.2.1 dX5_wantedFrom_5 rfl (lv_at hl 2 rfl) ?_
      obtain ⟨t_3, t_4, t_5, t_6, t_7, t_8, t_9, t_10, t_11⟩ := wt_2 hG Th
      obtain ⟨r_12, y_13, v_14, hr_17, ty_15, b_16⟩ := wg_2 hWF Th
      refine py_get (C := RX2) (T := TX2) (N := 12) (k := 9) (v := .ref r_12) G0 hw in_X5_wantedFrom_X2 rfl hr_17 (by decide) (by decide +kernel) rfl dX5_wantedFrom_6 ?_
      obtain ⟨t_18, t_19, t_20, t_21, t_22, t_23, t_24, t_25⟩ := wt_9 hG ty_15
      obtain ⟨v_26, v_27, hr_30, b_28, b_29⟩ := wg_9 hWF ty_15
      have tq_31 := va_eq hr_30
      refine py_get (C := RX9) (T := TX9) (N := 10) (k := 9) (v := .int v_27) G0 hw in_X5_wantedFrom_X9 rfl hr_30 (by decide) (by decide +kernel) rfl dX5_wantedFrom_9 ?_
      refine lv_icmp_ge (tgt := 53) G0.1 G0.2.1 dX5_wantedFrom_12 (by decide) (fun c_32 => ?_) (fun c_32 => ?_)
      · skip
        have tc_32 := ti_le c_32
        refine lv_iload_n G0.1 G0.2.1 dX5_wantedFrom_53 rfl (lv_at hl 1 rfl) ?_
        exact py_iret G0 hr rfl hlk hw ⟨rfl, rfl⟩ dX5_wantedFrom_54
      · skip
        have tc_32 := ti_nle c_32
        refine lv_aload_n G0.1 G0.2.1 dX5_wantedFrom_15 rfl (lv_at hl 2 rfl) ?_
        refine lv_iload_n G0.1 G0.2.1 dX5_wantedFrom_16 rfl (lv_at hl 0 rfl) ?_
        refine py_calli hw (va_runV (As := [.int v_1]) (rest := []) G0 (c_X2_waits l E G L f H_j4.size h v_1 hG hWF Th ⟨by omega, by omega⟩) (cwV 1 G0.2.2.2.2 g_X5_wantedFrom_X2_waits_66 rfl rfl rfl (by decide +kernel) ⟨(Nat.le_of_ble_eq_true rfl), (Nat.le_of_ble_eq_true rfl)⟩) (py_preV hw (C := RX2) (T := TX2) (N := 12) rfl hr_17) rfl rfl hl.1 rfl (lv_room (Nat.le_of_ble_eq_true rfl)) dX5_wantedFrom_17 ⟨(Nat.le_of_ble_eq_true rfl), (Nat.le_of_ble_eq_true rfl)⟩) (fun r_37 L_33 f_34 H_35 locs hp_36 hw => ?_)
        obtain ⟨b_38, rfl, rfl⟩ := hp_36
        have jn_47 : ∀ (v_39 : Int32) (H_j47 : Heap) (locs : List Loc) (ls : Array Slot), py_W E (va_A (va_pl L f) s.heap.size) s L f H_j47 locs → lv_has ls 4 [(3, .int v_1), (2, .int v_39), (0, .ref h), (1, .int a)] → W p l e (headSpec w_X5_wantedFrom ({ frames := 3, cells := 0, slots := 0, locals := 67 })).room s m ([.ref h, .int a] : List Value).toArray below meth c H_j47 locs 0 0 (MQ below (py_Qi E L f s.heap.size (fun _ L1 f1 => L = L1 ∧ f = f1)) ([.ref h, .int a] : List Value).toArray s 0 0 (va_A (va_pl L f) s.heap.size)) (F0 m 47 ls []) := by
          intro v_39 H_j47 locs ls hw hl
          obtain ⟨x_40, ex_40⟩ : ∃ y : Int32, y = v_1 + 1 := ⟨_, rfl⟩
          first | have tx_40 := ti_add ex_40 (by omega) (by omega) | skip
          refine lv_iinc (v := x_40) (lv' := [(3, .int x_40), (2, .int v_39), (0, .ref h), (1, .int a)]) G0.1 G0.2.1 dX5_wantedFrom_47 hl (k := 0) rfl (show _ + (1 : Int32) = _ from ex_40.symm) (by decide) rfl (fun ls hl => ?_)
          refine lv_goto (tgt := 4) G0.1 G0.2.1 dX5_wantedFrom_50 (by decide) ?_
          exact ih_4 ((2147483647 - x_40.toInt).toNat) (by omega) x_40 v_39 _ _ ls rfl ⟨by omega, by omega⟩ hw (lv_sub hl [0, 1, 2, 3] rfl)
        refine lv_if_eq (tgt := 47) G0.1 G0.2.1 dX5_wantedFrom_20 (by decide) (fun c_41 => ?_) (fun c_41 => ?_)
        · skip
          have tc_41 := ti_eq c_41
          exact jn_47 v_2 _ _ ls hw (lv_sub hl [0, 1, 2, 3] rfl)
        · skip
          have tc_41 := ti_ne c_41
          refine lv_iload_n G0.1 G0.2.1 dX5_wantedFrom_23 rfl (lv_at hl 3 rfl) ?_
          refine lv_aload_n G0.1 G0.2.1 dX5_wantedFrom_24 rfl (lv_at hl 2 rfl) ?_
          refine py_get (C := RX2) (T := TX2) (N := 12) (k := 1) (v := .ref (G.2 h 1)) G0 hw in_X5_wantedFrom_X2 rfl hr_17 (by decide) (by decide +kernel) rfl dX5_wantedFrom_25 ?_
          refine lv_iload_n G0.1 G0.2.1 dX5_wantedFrom_28 rfl (lv_at hl 0 rfl) ?_
          obtain ⟨g_42, ha_43, hi_44⟩ := wf_arr (n := 10) (lo := (-1)) (hi := 7) hWF t_4 (by omega) (wf_own1 E G _ h)
          have rg_45 : vp_in v_1 10 := ti_in (by omega) (by omega)
          refine py_iald G0 hw ha_43 rg_45 dX5_wantedFrom_29 ?_
          refine lv_topi (fun x_46 ex_46 => ?_)
          have bx_46 := ti_at hi_44 rg_45 ex_46
          refine lv_ishr G0.1 G0.2.1 dX5_wantedFrom_30 ?_
          refine lv_topi (fun x_47 ex_47 => ?_)
          refine lv_iconst (v := 1) G0.1 G0.2.1 dX5_wantedFrom_31 (by decide) ?_
          refine lv_iand G0.1 G0.2.1 dX5_wantedFrom_32 ?_
          refine lv_topi (fun x_48 ex_48 => ?_)
          refine lv_iconst (v := 1) G0.1 G0.2.1 dX5_wantedFrom_33 (by decide) ?_
          refine lv_icmp_ne (tgt := 47) G0.1 G0.2.1 dX5_wantedFrom_34 (by decide) (fun c_49 => ?_) (fun c_49 => ?_)
          · skip
            have tc_49 := ti_ne c_49
            exact jn_47 v_2 _ _ ls hw (lv_sub hl [0, 1, 2, 3] rfl)
          · skip
            have tc_49 := ti_eq c_49
            refine lv_iload_n G0.1 G0.2.1 dX5_wantedFrom_37 rfl (lv_at hl 1 rfl) ?_
            refine lv_iconst (v := 1) G0.1 G0.2.1 dX5_wantedFrom_38 (by decide) ?_
            refine lv_aload_n G0.1 G0.2.1 dX5_wantedFrom_39 rfl (lv_at hl 2 rfl) ?_
            refine lv_iload_n G0.1 G0.2.1 dX5_wantedFrom_40 rfl (lv_at hl 0 rfl) ?_
            refine py_calli hw (va_runV (As := [.int v_1]) (rest := [.int 1, .int v_2]) G0 (c_X2_want l E G L f H_35.size h v_1 hG hWF Th ⟨by omega, by omega⟩) (cwV 1 G0.2.2.2.2 g_X5_wantedFrom_X2_want_47 rfl rfl rfl (by decide +kernel) ⟨(Nat.le_of_ble_eq_true rfl), (Nat.le_of_ble_eq_true rfl)⟩) (py_preV hw (C := RX2) (T := TX2) (N := 12) rfl hr_17) rfl rfl hl.1 rfl (lv_room (Nat.le_of_ble_eq_true rfl)) dX5_wantedFrom_41 ⟨(Nat.le_of_ble_eq_true rfl), (Nat.le_of_ble_eq_true rfl)⟩) (fun r_54 L_50 f_51 H_52 locs hp_53 hw => ?_)
            obtain ⟨b_56, en_55, rfl, rfl⟩ := hp_53
            refine lv_ishl G0.1 G0.2.1 dX5_wantedFrom_44 ?_
            refine lv_topi (fun x_57 ex_57 => ?_)
            first | have bx_57 : 0 ≤ x_57.toInt ∧ x_57.toInt ≤ 512 := (by rcases ti_ten r_54 (by omega) (by omega) with h | h | h | h | h | h | h | h | h | h <;> (rw [ex_57, h]; decide +kernel)) | skip
            refine lv_ior G0.1 G0.2.1 dX5_wantedFrom_45 ?_
            refine lv_topi (fun x_58 ex_58 => ?_)
            first | have bx_58 := ti_or ex_58 ⟨by omega, by omega⟩ ⟨by omega, by omega⟩ | skip
            refine lv_istore_n (lv' := [(2, .int x_58), (3, .int v_1), (0, .ref h), (1, .int a)]) G0.1 G0.2.1 dX5_wantedFrom_46 rfl hl (by decide) rfl (fun ls hl => ?_)
            exact jn_47 x_58 _ _ ls hw (lv_sub hl [1, 0, 2, 3] rfl)
  exact lo_4 _ 0 0 _ _ ls rfl ⟨by omega, by omega⟩ hw (lv_sub hl [0, 1, 2, 3] rfl)

def w_X5_fewestFirst : List Cond := .code yX5_fewestFirst cX5_fewestFirst 6 (some .int) :: ([Cond.methodLink RX5 59 yX2_fullBits, Cond.instanceMethod yX2_fullBits, Cond.selects RX2 yX2_fullBits yX2_fullBits, Cond.initialized RX2, Cond.fieldLink RX5 50 "HeadYear$Folk" "level" "[I", Cond.methodLink RX5 47 yX2_want, Cond.instanceMethod yX2_want, Cond.selects RX2 yX2_want yX2_want, Cond.methodLink RX5 62 yX5_wantedFrom, Cond.static yX5_wantedFrom, Cond.initialized RX5] ++ (u_ws RX2 TX2 12 ++ (w_X2_fullBits ++ (w_X2_want ++ (w_X5_wantedFrom ++ ([]))))))
theorem in_X5_fewestFirst_X2 : ∀ w ∈ u_ws RX2 TX2 12, w ∈ w_X5_fewestFirst := fun _ h => List.mem_cons_of_mem _ (List.mem_append_right _ (List.mem_append_left _ h))
theorem gg_X5_fewestFirst_X2_fullBits : GoodIn w_X5_fewestFirst w_X2_fullBits := goodIn_sub (fun _ h => List.mem_cons_of_mem _ (List.mem_append_right _ (List.mem_append_right _ (List.mem_append_left _ h)))) (by decide +kernel)
theorem gg_X5_fewestFirst_X2_want : GoodIn w_X5_fewestFirst w_X2_want := goodIn_sub (fun _ h => List.mem_cons_of_mem _ (List.mem_append_right _ (List.mem_append_right _ (List.mem_append_right _ (List.mem_append_left _ h))))) (by decide +kernel)
theorem gg_X5_fewestFirst_X5_wantedFrom : GoodIn w_X5_fewestFirst w_X5_wantedFrom := goodIn_sub (fun _ h => List.mem_cons_of_mem _ (List.mem_append_right _ (List.mem_append_right _ (List.mem_append_right _ (List.mem_append_right _ (List.mem_append_left _ h)))))) (by decide +kernel)
theorem g_X5_fewestFirst_X2_fullBits_59 : GoodIn w_X5_fewestFirst (wsV RX5 59 RX2 yX2_fullBits w_X2_fullBits) := goodIn_app (goodIn_of _ (by decide +kernel)) gg_X5_fewestFirst_X2_fullBits
theorem g_X5_fewestFirst_X2_want_47 : GoodIn w_X5_fewestFirst (wsV RX5 47 RX2 yX2_want w_X2_want) := goodIn_app (goodIn_of _ (by decide +kernel)) gg_X5_fewestFirst_X2_want
theorem g_X5_fewestFirst_X5_wantedFrom_62 : GoodIn w_X5_fewestFirst (va_wsS RX5 62 yX5_wantedFrom w_X5_wantedFrom) := goodIn_app (goodIn_of _ (by decide +kernel)) gg_X5_fewestFirst_X5_wantedFrom
set_option maxHeartbeats 4000000 in
set_option maxRecDepth 100000 in
theorem c_X5_fewestFirst (l : Launch) (E : py_E) (G : wf_G) (L : List Nat) (f : py_F) (sz : Nat) (z : Nat) (h : Nat) (a : Int32) (hG : GT G) (hWF : WF E G L f) (Tz : G.1 z = 6) (Th : G.1 h = 3) (Ba : (0 ≤ a.toInt ∧ a.toInt ≤ 9)) : Met l yX5_fewestFirst w_X5_fewestFirst ({ frames := 4, cells := 0, slots := 0, locals := 90 }) (py_Pc E [.ref z, .ref h, .int a] L f sz) (py_Qi E L f sz (fun _ L1 f1 => L = L1 ∧ f = f1)) 0 0 (va_A (va_pl L f) sz) := by
  refine Met.ofW (cc := cX5_fewestFirst) (maxL := 6) (ret := (some .int)) (by decide) rfl ?_
  intro p e s m args below meth c s₁ B hml hv
  obtain ⟨rfl, rfl, hw⟩ := py_start hv
  have G0 : CallFix p m c cX5_fewestFirst 6 s _ w_X5_fewestFirst RX5 := ⟨B.exec, B.bytes, hml, findClass_of_methodNamed B.named, atoms_spec (ws := w_X5_fewestFirst) B.pre⟩
  have hr := B.returns
  have hlk := B.notSynchronized
  have kcm1 : (-1 : Int32).toInt = -1 := rfl
  have kc0 : (0 : Int32).toInt = 0 := rfl
  have kc1 : (1 : Int32).toInt = 1 := rfl
  have kc8 : (8 : Int32).toInt = 8 := rfl
  have hl := lv_entry ([.ref z, .ref h, .int a]) (n := 6) (Nat.le_of_ble_eq_true rfl)
  rw [lg_entry_eq]
  generalize (lg_sl ([.ref z, .ref h, .int a]) ++ List.replicate (6 - (lg_sl ([.ref z, .ref h, .int a])).length) Slot.unset).toArray = ls at hl ⊢
  have hl : lv_has ls 6 [(0, .ref z), (1, .ref h), (2, .int a)] := hl
  have hRP : RP E G f f := RP.refl
  refine lv_aload_n G0.1 G0.2.1 dX5_fewestFirst_0 rfl (lv_at hl 1 rfl) ?_
  obtain ⟨t_1, t_2, t_3, t_4, t_5, t_6, t_7, t_8, t_9⟩ := wt_2 hG Th
  obtain ⟨r_10, y_11, v_12, hr_15, ty_13, b_14⟩ := wg_2 hWF Th
  refine py_calli hw (va_runV (As := []) (rest := []) G0 (c_X2_fullBits l E G L f s.heap.size h hG hWF Th) (cwV 0 G0.2.2.2.2 g_X5_fewestFirst_X2_fullBits_59 rfl rfl rfl (by decide +kernel) ⟨(Nat.le_of_ble_eq_true rfl), (Nat.le_of_ble_eq_true rfl)⟩) (py_preV hw (C := RX2) (T := TX2) (N := 12) rfl hr_15) rfl rfl hl.1 rfl (lv_room (Nat.le_of_ble_eq_true rfl)) dX5_fewestFirst_1 ⟨(Nat.le_of_ble_eq_true rfl), (Nat.le_of_ble_eq_true rfl)⟩) (fun r_20 L_16 f_17 H_18 locs hp_19 hw => ?_)
  obtain ⟨rfl, rfl⟩ := hp_19
  have br_20 := wf_free r_20
  refine lv_iconst (v := (-1)) G0.1 G0.2.1 dX5_fewestFirst_4 (by decide) ?_
  refine lv_ixor G0.1 G0.2.1 dX5_fewestFirst_5 ?_
  refine lv_topi (fun x_21 ex_21 => ?_)
  refine lv_iconst (v := 1) G0.1 G0.2.1 dX5_fewestFirst_6 (by decide) ?_
  refine lv_aload_n G0.1 G0.2.1 dX5_fewestFirst_7 rfl (lv_at hl 1 rfl) ?_
  refine py_get (C := RX2) (T := TX2) (N := 12) (k := 1) (v := .ref (G.2 h 1)) G0 hw in_X5_fewestFirst_X2 rfl hr_15 (by decide) (by decide +kernel) rfl dX5_fewestFirst_8 ?_
  refine lv_iload_n G0.1 G0.2.1 dX5_fewestFirst_11 rfl (lv_at hl 2 rfl) ?_
  obtain ⟨g_22, ha_23, hi_24⟩ := wf_arr (n := 10) (lo := (-1)) (hi := 7) hWF t_2 (by omega) (wf_own1 E G _ h)
  have rg_25 : vp_in a 10 := ti_in (by omega) (by omega)
  refine py_iald G0 hw ha_23 rg_25 dX5_fewestFirst_12 ?_
  refine lv_topi (fun x_26 ex_26 => ?_)
  have bx_26 := ti_at hi_24 rg_25 ex_26
  refine lv_ishl G0.1 G0.2.1 dX5_fewestFirst_13 ?_
  refine lv_topi (fun x_27 ex_27 => ?_)
  first | have bx_27 : 0 ≤ x_27.toInt ∧ x_27.toInt ≤ 512 := (by rcases ti_ten x_26 (by omega) (by omega) with h | h | h | h | h | h | h | h | h | h <;> (rw [ex_27, h]; decide +kernel)) | skip
  refine lv_ior G0.1 G0.2.1 dX5_fewestFirst_14 ?_
  refine lv_topi (fun x_28 ex_28 => ?_)
  first | have bx_28 := ti_or ex_28 ⟨by omega, by omega⟩ ⟨by omega, by omega⟩ | skip
  refine lv_istore_n (lv' := [(3, .int x_28), (0, .ref z), (1, .ref h), (2, .int a)]) G0.1 G0.2.1 dX5_fewestFirst_15 rfl hl (by decide) rfl (fun ls hl => ?_)
  refine lv_iconst (v := 1) G0.1 G0.2.1 dX5_fewestFirst_16 (by decide) ?_
  refine lv_aload_n G0.1 G0.2.1 dX5_fewestFirst_17 rfl (lv_at hl 2 rfl) ?_
  refine lv_iload_n G0.1 G0.2.1 dX5_fewestFirst_18 rfl (lv_at hl 3 rfl) ?_
  refine py_calli hw (va_runV (As := [.int a]) (rest := [.int 1]) G0 (c_X2_want l E G L f H_18.size h a hG hWF Th ⟨by omega, by omega⟩) (cwV 1 G0.2.2.2.2 g_X5_fewestFirst_X2_want_47 rfl rfl rfl (by decide +kernel) ⟨(Nat.le_of_ble_eq_true rfl), (Nat.le_of_ble_eq_true rfl)⟩) (py_preV hw (C := RX2) (T := TX2) (N := 12) rfl hr_15) rfl rfl hl.1 rfl (lv_room (Nat.le_of_ble_eq_true rfl)) dX5_fewestFirst_19 ⟨(Nat.le_of_ble_eq_true rfl), (Nat.le_of_ble_eq_true rfl)⟩) (fun r_33 L_29 f_30 H_31 locs hp_32 hw => ?_)
  obtain ⟨b_35, en_34, rfl, rfl⟩ := hp_32
  refine lv_ishl G0.1 G0.2.1 dX5_fewestFirst_22 ?_
  refine lv_topi (fun x_36 ex_36 => ?_)
  first | have bx_36 : 0 ≤ x_36.toInt ∧ x_36.toInt ≤ 512 := (by rcases ti_ten r_33 (by omega) (by omega) with h | h | h | h | h | h | h | h | h | h <;> (rw [ex_36, h]; decide +kernel)) | skip
  refine lv_istore (lv' := [(4, .int x_36), (3, .int x_28), (0, .ref z), (1, .ref h), (2, .int a)]) G0.1 G0.2.1 dX5_fewestFirst_23 hl (by decide) rfl (fun ls hl => ?_)
  refine lv_iconst (v := 0) G0.1 G0.2.1 dX5_fewestFirst_25 (by decide) ?_
  refine lv_istore (lv' := [(5, .int 0), (4, .int x_36), (3, .int x_28), (0, .ref z), (1, .ref h), (2, .int a)]) G0.1 G0.2.1 dX5_fewestFirst_26 hl (by decide) rfl (fun ls hl => ?_)
  have lo_28 : ∀ n_28 : Nat, ∀ (v_37 : Int32) (v_38 : Int32) (H_j28 : Heap) (locs : List Loc) (ls : Array Slot), (2147483647 - v_37.toInt).toNat = n_28 → (0 ≤ v_37.toInt ∧ v_37.toInt ≤ 2147483647) → py_W E (va_A (va_pl L f) s.heap.size) s L f H_j28 locs → lv_has ls 6 [(5, .int v_37), (4, .int v_38), (3, .int x_28), (0, .ref z), (1, .ref h), (2, .int a)] → W p l e (headSpec w_X5_fewestFirst ({ frames := 4, cells := 0, slots := 0, locals := 90 })).room s m ([.ref z, .ref h, .int a] : List Value).toArray below meth c H_j28 locs 0 0 (MQ below (py_Qi E L f s.heap.size (fun _ L1 f1 => L = L1 ∧ f = f1)) ([.ref z, .ref h, .int a] : List Value).toArray s 0 0 (va_A (va_pl L f) s.heap.size)) (F0 m 28 ls []) := by
    intro n_28
    induction n_28 using Nat.strongRecOn with
    | _ n_28 ih_28 =>
      intro v_37 v_38 H_j28 locs ls hn_28 bv_37 hw hl
      refine lv_iload G0.1 G0.2.1 dX5_fewestFirst_28 (lv_at hl 0 rfl) ?_
      refine lv_bipush (v := 8) G0.1 G0.2.1 dX5_fewestFirst_30 (by decide) ?_
      refine lv_icmp_ge (tgt := 62) G0.1 G0.2.1 dX5_fewestFirst_32 (by decide) (fun c_39 => ?_) (fun c_39 => ?_)
      · skip
        have tc_39 := ti_le c_39
        refine lv_iconst (v := (-1)) G0.1 G0.2.1 dX5_fewestFirst_62 (by decide) ?_
        exact py_iret G0 hr rfl hlk hw ⟨rfl, rfl⟩ dX5_fewestFirst_63
      · skip
        have tc_39 := ti_nle c_39
        refine lv_iload G0.1 G0.2.1 dX5_fewestFirst_35 (lv_at hl 1 rfl) ?_
        refine lv_iload_n G0.1 G0.2.1 dX5_fewestFirst_37 rfl (lv_at hl 2 rfl) ?_
        refine lv_iand G0.1 G0.2.1 dX5_fewestFirst_38 ?_
        refine lv_topi (fun x_40 ex_40 => ?_)
        refine lv_if_eq (tgt := 45) G0.1 G0.2.1 dX5_fewestFirst_39 (by decide) (fun c_41 => ?_) (fun c_41 => ?_)
        · skip
          have tc_41 := ti_eq c_41
          refine lv_iload G0.1 G0.2.1 dX5_fewestFirst_45 (lv_at hl 1 rfl) ?_
          refine lv_aload_n G0.1 G0.2.1 dX5_fewestFirst_47 rfl (lv_at hl 4 rfl) ?_
          refine lv_iload G0.1 G0.2.1 dX5_fewestFirst_48 (lv_at hl 1 rfl) ?_
          refine py_calli hw (va_runS (As := [.ref h, .int v_38]) (rest := [.int v_38]) G0 (c_X5_wantedFrom l E G L f H_j28.size h v_38 hG hWF Th) (va_cwS 2 G0.2.2.2.2 g_X5_fewestFirst_X5_wantedFrom_62 rfl rfl rfl (by decide +kernel) ⟨(Nat.le_of_ble_eq_true rfl), (Nat.le_of_ble_eq_true rfl)⟩) (py_preS hw) rfl rfl hl.1 rfl (lv_room (Nat.le_of_ble_eq_true rfl)) dX5_fewestFirst_50 ⟨(Nat.le_of_ble_eq_true rfl), (Nat.le_of_ble_eq_true rfl)⟩) (fun r_46 L_42 f_43 H_44 locs hp_45 hw => ?_)
          obtain ⟨rfl, rfl⟩ := hp_45
          have br_46 := wf_free r_46
          refine lv_ior G0.1 G0.2.1 dX5_fewestFirst_53 ?_
          refine lv_topi (fun x_47 ex_47 => ?_)
          first | have bx_47 := ti_or ex_47 ⟨by omega, by omega⟩ ⟨by omega, by omega⟩ | skip
          refine lv_istore (lv' := [(4, .int x_47), (5, .int v_37), (3, .int x_28), (0, .ref z), (1, .ref h), (2, .int a)]) G0.1 G0.2.1 dX5_fewestFirst_54 hl (by decide) rfl (fun ls hl => ?_)
          obtain ⟨x_48, ex_48⟩ : ∃ y : Int32, y = v_37 + 1 := ⟨_, rfl⟩
          first | have tx_48 := ti_add ex_48 (by omega) (by omega) | skip
          refine lv_iinc (v := x_48) (lv' := [(5, .int x_48), (4, .int x_47), (3, .int x_28), (0, .ref z), (1, .ref h), (2, .int a)]) G0.1 G0.2.1 dX5_fewestFirst_56 hl (k := 1) rfl (show _ + (1 : Int32) = _ from ex_48.symm) (by decide) rfl (fun ls hl => ?_)
          refine lv_goto (tgt := 28) G0.1 G0.2.1 dX5_fewestFirst_59 (by decide) ?_
          exact ih_28 ((2147483647 - x_48.toInt).toNat) (by omega) x_48 x_47 _ _ ls rfl ⟨by omega, by omega⟩ hw (lv_sub hl [0, 1, 2, 3, 4, 5] rfl)
        · skip
          have tc_41 := ti_ne c_41
          refine lv_iload G0.1 G0.2.1 dX5_fewestFirst_42 (lv_at hl 0 rfl) ?_
          exact py_iret G0 hr rfl hlk hw ⟨rfl, rfl⟩ dX5_fewestFirst_44
  exact lo_28 _ 0 x_36 _ _ ls rfl ⟨by omega, by omega⟩ hw (lv_sub hl [0, 1, 2, 3, 4, 5] rfl)
