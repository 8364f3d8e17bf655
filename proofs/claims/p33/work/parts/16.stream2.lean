theorem wn_89 : (Cond.fieldLinkNest RX7 (116 : Nat) "NineRiver$State" "natural" "I" "NineRiver") ∈ lw_tbl := List.mem_append_right _ (List.mem_of_getElem? (i := 89) (by decide +kernel))
theorem wp_10 : Cond.selects RX7 yX7_askAbout yX7_askAbout ∈ TB := tv 10 (by decide +kernel) (by decide +kernel)
theorem wp_4 : Cond.selects RX7 yX7_refresh yX7_refresh ∈ TB := tv 4 (by decide +kernel) (by decide +kernel)
theorem wp_5 : Cond.selects RX7 yX7_flowBy yX7_flowBy ∈ TB := tv 5 (by decide +kernel) (by decide +kernel)
theorem wp_7 : Cond.selects RX7 yX7_walk yX7_walk ∈ TB := tv 7 (by decide +kernel) (by decide +kernel)
theorem wd_1118 : (Cond.methodLink RX7 (70 : Nat) yX7_stepBy) ∈ TB := tw 1118 (by decide +kernel) (by decide +kernel)
theorem wd_1119 : (Jvm.Cond.instanceMethod yX7_stepBy) ∈ TB := tw 1119 (by decide +kernel) (by decide +kernel)
theorem wd_1120 : (Cond.selects RX7 yX7_stepBy yX7_stepBy) ∈ TB := tw 1120 (by decide +kernel) (by decide +kernel)
theorem wd_1121 : (Cond.code yX7_stepBy cX7_stepBy 5 (Option.some Jvm.ClassFile.FieldType.int)) ∈ TB := tw 1121 (by decide +kernel) (by decide +kernel)
theorem wd_190 : (Cond.fieldLink RX7 (12 : Nat) "NineRiver$Stream" "asker" "LNineRiver$Asker;") ∈ TB := tw 190 (by decide +kernel) (by decide +kernel)
theorem wd_526 : (Cond.methodLink RX7 (106 : Nat) yX7_flowAt) ∈ TB := tw 526 (by decide +kernel) (by decide +kernel)
theorem wd_527 : (Jvm.Cond.instanceMethod yX7_flowAt) ∈ TB := tw 527 (by decide +kernel) (by decide +kernel)
theorem wd_528 : (Cond.selects RX7 yX7_flowAt yX7_flowAt) ∈ TB := tw 528 (by decide +kernel) (by decide +kernel)
theorem wd_529 : (Cond.code yX7_flowAt cX7_flowAt 3 (Option.some Jvm.ClassFile.FieldType.int)) ∈ TB := tw 529 (by decide +kernel) (by decide +kernel)
theorem wd_530 : (Cond.methodLink RX7 (39 : Nat) yX7_stepFrom) ∈ TB := tw 530 (by decide +kernel) (by decide +kernel)
theorem wd_531 : (Jvm.Cond.instanceMethod yX7_stepFrom) ∈ TB := tw 531 (by decide +kernel) (by decide +kernel)
theorem wd_532 : (Cond.selects RX7 yX7_stepFrom yX7_stepFrom) ∈ TB := tw 532 (by decide +kernel) (by decide +kernel)
theorem wd_533 : (Cond.code yX7_stepFrom cX7_stepFrom 6 (Option.some Jvm.ClassFile.FieldType.int)) ∈ TB := tw 533 (by decide +kernel) (by decide +kernel)
theorem wd_536 : (Cond.methodLink RX7 (50 : Nat) yX7_refresh) ∈ TB := tw 536 (by decide +kernel) (by decide +kernel)
theorem wd_538 : (Jvm.Cond.instanceMethod yX7_refresh) ∈ TB := tw 538 (by decide +kernel) (by decide +kernel)
theorem wd_539 : (Cond.code yX7_refresh cX7_refresh 4 (Option.none : Option Jvm.ClassFile.FieldType)) ∈ TB := tw 539 (by decide +kernel) (by decide +kernel)
theorem wd_545 : (Cond.methodLink RX7 (53 : Nat) yX6_strikeIn) ∈ TB := tw 545 (by decide +kernel) (by decide +kernel)
theorem wd_546 : (Jvm.Cond.instanceMethod yX6_strikeIn) ∈ TB := tw 546 (by decide +kernel) (by decide +kernel)
theorem wd_547 : (Cond.selects RX6 yX6_strikeIn yX6_strikeIn) ∈ TB := tw 547 (by decide +kernel) (by decide +kernel)
theorem wd_548 : (Cond.code yX6_strikeIn cX6_strikeIn 2 (Option.some Jvm.ClassFile.FieldType.int)) ∈ TB := tw 548 (by decide +kernel) (by decide +kernel)
theorem wd_550 : (Cond.methodLink RX7 (59 : Nat) yX6_pumpedAt) ∈ TB := tw 550 (by decide +kernel) (by decide +kernel)
theorem wd_551 : (Jvm.Cond.instanceMethod yX6_pumpedAt) ∈ TB := tw 551 (by decide +kernel) (by decide +kernel)
theorem wd_552 : (Cond.selects RX6 yX6_pumpedAt yX6_pumpedAt) ∈ TB := tw 552 (by decide +kernel) (by decide +kernel)
theorem wd_553 : (Cond.code yX6_pumpedAt cX6_pumpedAt 4 (Option.some Jvm.ClassFile.FieldType.int)) ∈ TB := tw 553 (by decide +kernel) (by decide +kernel)
theorem wd_558 : (Cond.methodLink RX7 (63 : Nat) yX7_flowBy) ∈ TB := tw 558 (by decide +kernel) (by decide +kernel)
theorem wd_560 : (Jvm.Cond.instanceMethod yX7_flowBy) ∈ TB := tw 560 (by decide +kernel) (by decide +kernel)
theorem wd_561 : (Cond.code yX7_flowBy cX7_flowBy 8 (Option.some Jvm.ClassFile.FieldType.int)) ∈ TB := tw 561 (by decide +kernel) (by decide +kernel)
theorem wd_562 : (Cond.methodLink RX7 (76 : Nat) yX6_lawInForce) ∈ TB := tw 562 (by decide +kernel) (by decide +kernel)
theorem wd_563 : (Jvm.Cond.instanceMethod yX6_lawInForce) ∈ TB := tw 563 (by decide +kernel) (by decide +kernel)
theorem wd_564 : (Cond.selects RX6 yX6_lawInForce yX6_lawInForce) ∈ TB := tw 564 (by decide +kernel) (by decide +kernel)
theorem wd_565 : (Cond.code yX6_lawInForce cX6_lawInForce 1 (Option.some (Jvm.ClassFile.FieldType.object "NineRiver$Law"))) ∈ TB := tw 565 (by decide +kernel) (by decide +kernel)
theorem wd_566 : (Cond.constant RX7 (90 : Nat) (-2000000000 : Int32)) ∈ TB := tw 566 (by decide +kernel) (by decide +kernel)
theorem wd_567 : (Cond.methodLink RX7 (112 : Nat) yX0_about) ∈ TB := tw 567 (by decide +kernel) (by decide +kernel)
theorem wd_568 : (Jvm.Cond.instanceMethod yX0_about) ∈ TB := tw 568 (by decide +kernel) (by decide +kernel)
theorem wd_569 : (Cond.selects RX0 yX0_about yX0_about) ∈ TB := tw 569 (by decide +kernel) (by decide +kernel)
theorem wd_570 : (Cond.code yX0_about cX0_about 7 (Option.none : Option Jvm.ClassFile.FieldType)) ∈ TB := tw 570 (by decide +kernel) (by decide +kernel)
theorem wd_571 : (Cond.methodLink RX7 (86 : Nat) yX0_tells) ∈ TB := tw 571 (by decide +kernel) (by decide +kernel)
theorem wd_572 : (Jvm.Cond.instanceMethod yX0_tells) ∈ TB := tw 572 (by decide +kernel) (by decide +kernel)
theorem wd_573 : (Cond.selects RX0 yX0_tells yX0_tells) ∈ TB := tw 573 (by decide +kernel) (by decide +kernel)
theorem wd_574 : (Cond.code yX0_tells cX0_tells 5 (Option.some Jvm.ClassFile.FieldType.int)) ∈ TB := tw 574 (by decide +kernel) (by decide +kernel)
theorem wd_582 : (Cond.methodLink RX7 (91 : Nat) Lib.Math.min.name) ∈ TB := tw 582 (by decide +kernel) (by decide +kernel)
theorem wd_583 : (Jvm.Cond.static Lib.Math.min.name) ∈ TB := tw 583 (by decide +kernel) (by decide +kernel)
theorem wd_584 : (Cond.code Lib.Math.min.name Lib.Math.min.code 2 (Option.some Jvm.ClassFile.FieldType.int)) ∈ TB := tw 584 (by decide +kernel) (by decide +kernel)
theorem wd_585 : (Cond.methodLink RX7 (96 : Nat) Lib.Math.max.name) ∈ TB := tw 585 (by decide +kernel) (by decide +kernel)
theorem wd_586 : (Cond.methodLink RX7 (67 : Nat) yX7_walk) ∈ TB := tw 586 (by decide +kernel) (by decide +kernel)
theorem wd_588 : (Jvm.Cond.instanceMethod yX7_walk) ∈ TB := tw 588 (by decide +kernel) (by decide +kernel)
theorem wd_589 : (Cond.code yX7_walk cX7_walk 7 (Option.some Jvm.ClassFile.FieldType.int)) ∈ TB := tw 589 (by decide +kernel) (by decide +kernel)
theorem wd_590 : (Cond.methodLink RX7 (109 : Nat) Lib.Math.abs.name) ∈ TB := tw 590 (by decide +kernel) (by decide +kernel)
theorem wd_591 : (Jvm.Cond.static Lib.Math.abs.name) ∈ TB := tw 591 (by decide +kernel) (by decide +kernel)
theorem wd_592 : (Cond.code Lib.Math.abs.name Lib.Math.abs.code 1 (Option.some Jvm.ClassFile.FieldType.int)) ∈ TB := tw 592 (by decide +kernel) (by decide +kernel)
theorem wd_627 : (Cond.methodLink RX7 (73 : Nat) yX7_priceAt) ∈ TB := tw 627 (by decide +kernel) (by decide +kernel)
theorem wd_628 : (Jvm.Cond.instanceMethod yX7_priceAt) ∈ TB := tw 628 (by decide +kernel) (by decide +kernel)
theorem wd_629 : (Cond.selects RX7 yX7_priceAt yX7_priceAt) ∈ TB := tw 629 (by decide +kernel) (by decide +kernel)
theorem wd_630 : (Cond.code yX7_priceAt cX7_priceAt 8 (Option.some Jvm.ClassFile.FieldType.int)) ∈ TB := tw 630 (by decide +kernel) (by decide +kernel)
theorem wd_631 : (Cond.methodLink RX7 (80 : Nat) yX7_askAbout) ∈ TB := tw 631 (by decide +kernel) (by decide +kernel)
theorem wd_633 : (Jvm.Cond.instanceMethod yX7_askAbout) ∈ TB := tw 633 (by decide +kernel) (by decide +kernel)
theorem wd_634 : (Cond.code yX7_askAbout cX7_askAbout 4 (Option.none : Option Jvm.ClassFile.FieldType)) ∈ TB := tw 634 (by decide +kernel) (by decide +kernel)
theorem wd_815 : (Jvm.Cond.instanceMethod yX7_tollAt) ∈ TB := tw 815 (by decide +kernel) (by decide +kernel)
theorem wd_816 : (Cond.selects RX7 yX7_tollAt yX7_tollAt) ∈ TB := tw 816 (by decide +kernel) (by decide +kernel)
theorem wd_817 : (Cond.code yX7_tollAt cX7_tollAt 6 (Option.some Jvm.ClassFile.FieldType.int)) ∈ TB := tw 817 (by decide +kernel) (by decide +kernel)
theorem wd_818 : (Cond.methodLink RX7 (99 : Nat) yX0_going) ∈ TB := tw 818 (by decide +kernel) (by decide +kernel)
theorem wd_819 : (Jvm.Cond.instanceMethod yX0_going) ∈ TB := tw 819 (by decide +kernel) (by decide +kernel)
theorem wd_820 : (Cond.selects RX0 yX0_going yX0_going) ∈ TB := tw 820 (by decide +kernel) (by decide +kernel)
theorem wd_821 : (Cond.code yX0_going cX0_going 2 (Option.none : Option Jvm.ClassFile.FieldType)) ∈ TB := tw 821 (by decide +kernel) (by decide +kernel)
theorem wd_893 : (Cond.methodLink RX7 (103 : Nat) yX7_tollAt) ∈ TB := tw 893 (by decide +kernel) (by decide +kernel)
theorem dX7_flowBy_0g : (decode cX7_flowBy 0 = .ok (.aload_n 0, 1)) ∧ (decode cX7_flowBy 1 = .ok (.invokevirtual 50, 3)) ∧ (decode cX7_flowBy 4 = .ok (.aload_n 0, 1)) ∧ (decode cX7_flowBy 5 = .ok (.getfield 35, 3)) ∧ (decode cX7_flowBy 8 = .ok (.invokevirtual 76, 3)) ∧ (decode cX7_flowBy 11 = .ok (.astore 5, 2)) ∧ (decode cX7_flowBy 13 = .ok (.ldc 90, 2)) ∧ (decode cX7_flowBy 15 = .ok (.istore 6, 2)) ∧ (decode cX7_flowBy 17 = .ok (.aload 5, 2)) ∧ (decode cX7_flowBy 19 = .ok (.ifnull 44, 3)) := by decide +kernel
theorem dX7_flowBy_0 : decode cX7_flowBy 0 = .ok (.aload_n 0, 1) := dX7_flowBy_0g.1
theorem dX7_flowBy_1 : decode cX7_flowBy 1 = .ok (.invokevirtual 50, 3) := dX7_flowBy_0g.2.1
theorem dX7_flowBy_4 : decode cX7_flowBy 4 = .ok (.aload_n 0, 1) := dX7_flowBy_0g.2.2.1
theorem dX7_flowBy_5 : decode cX7_flowBy 5 = .ok (.getfield 35, 3) := dX7_flowBy_0g.2.2.2.1
theorem dX7_flowBy_8 : decode cX7_flowBy 8 = .ok (.invokevirtual 76, 3) := dX7_flowBy_0g.2.2.2.2.1
theorem dX7_flowBy_11 : decode cX7_flowBy 11 = .ok (.astore 5, 2) := dX7_flowBy_0g.2.2.2.2.2.1
theorem dX7_flowBy_13 : decode cX7_flowBy 13 = .ok (.ldc 90, 2) := dX7_flowBy_0g.2.2.2.2.2.2.1
theorem dX7_flowBy_15 : decode cX7_flowBy 15 = .ok (.istore 6, 2) := dX7_flowBy_0g.2.2.2.2.2.2.2.1
theorem dX7_flowBy_17 : decode cX7_flowBy 17 = .ok (.aload 5, 2) := dX7_flowBy_0g.2.2.2.2.2.2.2.2.1
theorem dX7_flowBy_19 : decode cX7_flowBy 19 = .ok (.ifnull 44, 3) := dX7_flowBy_0g.2.2.2.2.2.2.2.2.2
theorem dX7_flowBy_22g : (decode cX7_flowBy 22 = .ok (.iload_n 1, 1)) ∧ (decode cX7_flowBy 23 = .ok (.invokestatic 43, 3)) ∧ (decode cX7_flowBy 26 = .ok (.ifCond .eq 37, 3)) ∧ (decode cX7_flowBy 29 = .ok (.aload_n 0, 1)) ∧ (decode cX7_flowBy 30 = .ok (.getfield 12, 3)) ∧ (decode cX7_flowBy 33 = .ok (.iload_n 1, 1)) ∧ (decode cX7_flowBy 34 = .ok (.iload_n 2, 1)) ∧ (decode cX7_flowBy 35 = .ok (.iload_n 3, 1)) ∧ (decode cX7_flowBy 36 = .ok (.iload 4, 2)) ∧ (decode cX7_flowBy 38 = .ok (.aload_n 0, 1)) := by decide +kernel
theorem dX7_flowBy_22 : decode cX7_flowBy 22 = .ok (.iload_n 1, 1) := dX7_flowBy_22g.1
theorem dX7_flowBy_23 : decode cX7_flowBy 23 = .ok (.invokestatic 43, 3) := dX7_flowBy_22g.2.1
theorem dX7_flowBy_26 : decode cX7_flowBy 26 = .ok (.ifCond .eq 37, 3) := dX7_flowBy_22g.2.2.1
theorem dX7_flowBy_29 : decode cX7_flowBy 29 = .ok (.aload_n 0, 1) := dX7_flowBy_22g.2.2.2.1
theorem dX7_flowBy_30 : decode cX7_flowBy 30 = .ok (.getfield 12, 3) := dX7_flowBy_22g.2.2.2.2.1
theorem dX7_flowBy_33 : decode cX7_flowBy 33 = .ok (.iload_n 1, 1) := dX7_flowBy_22g.2.2.2.2.2.1
theorem dX7_flowBy_34 : decode cX7_flowBy 34 = .ok (.iload_n 2, 1) := dX7_flowBy_22g.2.2.2.2.2.2.1
theorem dX7_flowBy_35 : decode cX7_flowBy 35 = .ok (.iload_n 3, 1) := dX7_flowBy_22g.2.2.2.2.2.2.2.1
theorem dX7_flowBy_36 : decode cX7_flowBy 36 = .ok (.iload 4, 2) := dX7_flowBy_22g.2.2.2.2.2.2.2.2.1
theorem dX7_flowBy_38 : decode cX7_flowBy 38 = .ok (.aload_n 0, 1) := dX7_flowBy_22g.2.2.2.2.2.2.2.2.2
theorem dX7_flowBy_39g : (decode cX7_flowBy 39 = .ok (.getfield 28, 3)) ∧ (decode cX7_flowBy 42 = .ok (.iload_n 1, 1)) ∧ (decode cX7_flowBy 43 = .ok (.iaload, 1)) ∧ (decode cX7_flowBy 44 = .ok (.aload_n 0, 1)) ∧ (decode cX7_flowBy 45 = .ok (.getfield 35, 3)) ∧ (decode cX7_flowBy 48 = .ok (.invokevirtual 112, 3)) ∧ (decode cX7_flowBy 51 = .ok (.aload_n 0, 1)) ∧ (decode cX7_flowBy 52 = .ok (.getfield 12, 3)) ∧ (decode cX7_flowBy 55 = .ok (.aload 5, 2)) ∧ (decode cX7_flowBy 57 = .ok (.iconst 0, 1)) := by decide +kernel
theorem dX7_flowBy_39 : decode cX7_flowBy 39 = .ok (.getfield 28, 3) := dX7_flowBy_39g.1
theorem dX7_flowBy_42 : decode cX7_flowBy 42 = .ok (.iload_n 1, 1) := dX7_flowBy_39g.2.1
theorem dX7_flowBy_43 : decode cX7_flowBy 43 = .ok (.iaload, 1) := dX7_flowBy_39g.2.2.1
theorem dX7_flowBy_44 : decode cX7_flowBy 44 = .ok (.aload_n 0, 1) := dX7_flowBy_39g.2.2.2.1
theorem dX7_flowBy_45 : decode cX7_flowBy 45 = .ok (.getfield 35, 3) := dX7_flowBy_39g.2.2.2.2.1
theorem dX7_flowBy_48 : decode cX7_flowBy 48 = .ok (.invokevirtual 112, 3) := dX7_flowBy_39g.2.2.2.2.2.1
theorem dX7_flowBy_51 : decode cX7_flowBy 51 = .ok (.aload_n 0, 1) := dX7_flowBy_39g.2.2.2.2.2.2.1
theorem dX7_flowBy_52 : decode cX7_flowBy 52 = .ok (.getfield 12, 3) := dX7_flowBy_39g.2.2.2.2.2.2.2.1
theorem dX7_flowBy_55 : decode cX7_flowBy 55 = .ok (.aload 5, 2) := dX7_flowBy_39g.2.2.2.2.2.2.2.2.1
theorem dX7_flowBy_57 : decode cX7_flowBy 57 = .ok (.iconst 0, 1) := dX7_flowBy_39g.2.2.2.2.2.2.2.2.2
theorem dX7_flowBy_58g : (decode cX7_flowBy 58 = .ok (.invokevirtual 86, 3)) ∧ (decode cX7_flowBy 61 = .ok (.istore 6, 2)) ∧ (decode cX7_flowBy 63 = .ok (.iload 6, 2)) ∧ (decode cX7_flowBy 65 = .ok (.ldc 90, 2)) ∧ (decode cX7_flowBy 67 = .ok (.if_icmp .ne 16, 3)) ∧ (decode cX7_flowBy 70 = .ok (.aload_n 0, 1)) ∧ (decode cX7_flowBy 71 = .ok (.getfield 35, 3)) ∧ (decode cX7_flowBy 74 = .ok (.getfield 116, 3)) ∧ (decode cX7_flowBy 77 = .ok (.iload 4, 2)) ∧ (decode cX7_flowBy 79 = .ok (.isub, 1)) := by decide +kernel
theorem dX7_flowBy_58 : decode cX7_flowBy 58 = .ok (.invokevirtual 86, 3) := dX7_flowBy_58g.1
theorem dX7_flowBy_61 : decode cX7_flowBy 61 = .ok (.istore 6, 2) := dX7_flowBy_58g.2.1
theorem dX7_flowBy_63 : decode cX7_flowBy 63 = .ok (.iload 6, 2) := dX7_flowBy_58g.2.2.1
theorem dX7_flowBy_65 : decode cX7_flowBy 65 = .ok (.ldc 90, 2) := dX7_flowBy_58g.2.2.2.1
theorem dX7_flowBy_67 : decode cX7_flowBy 67 = .ok (.if_icmp .ne 16, 3) := dX7_flowBy_58g.2.2.2.2.1
theorem dX7_flowBy_70 : decode cX7_flowBy 70 = .ok (.aload_n 0, 1) := dX7_flowBy_58g.2.2.2.2.2.1
theorem dX7_flowBy_71 : decode cX7_flowBy 71 = .ok (.getfield 35, 3) := dX7_flowBy_58g.2.2.2.2.2.2.1
theorem dX7_flowBy_74 : decode cX7_flowBy 74 = .ok (.getfield 116, 3) := dX7_flowBy_58g.2.2.2.2.2.2.2.1
theorem dX7_flowBy_77 : decode cX7_flowBy 77 = .ok (.iload 4, 2) := dX7_flowBy_58g.2.2.2.2.2.2.2.2.1
theorem dX7_flowBy_79 : decode cX7_flowBy 79 = .ok (.isub, 1) := dX7_flowBy_58g.2.2.2.2.2.2.2.2.2
theorem dX7_flowBy_80g : (decode cX7_flowBy 80 = .ok (.goto 5, 3)) ∧ (decode cX7_flowBy 83 = .ok (.iload 6, 2)) ∧ (decode cX7_flowBy 85 = .ok (.istore 7, 2)) ∧ (decode cX7_flowBy 87 = .ok (.bipush (-6), 2)) ∧ (decode cX7_flowBy 89 = .ok (.iload 7, 2)) ∧ (decode cX7_flowBy 91 = .ok (.bipush 6, 2)) ∧ (decode cX7_flowBy 93 = .ok (.invokestatic 91, 3)) ∧ (decode cX7_flowBy 96 = .ok (.invokestatic 96, 3)) ∧ (decode cX7_flowBy 99 = .ok (.ireturn, 1)) := by decide +kernel
theorem dX7_flowBy_80 : decode cX7_flowBy 80 = .ok (.goto 5, 3) := dX7_flowBy_80g.1
theorem dX7_flowBy_83 : decode cX7_flowBy 83 = .ok (.iload 6, 2) := dX7_flowBy_80g.2.1
theorem dX7_flowBy_85 : decode cX7_flowBy 85 = .ok (.istore 7, 2) := dX7_flowBy_80g.2.2.1
theorem dX7_flowBy_87 : decode cX7_flowBy 87 = .ok (.bipush (-6), 2) := dX7_flowBy_80g.2.2.2.1
theorem dX7_flowBy_89 : decode cX7_flowBy 89 = .ok (.iload 7, 2) := dX7_flowBy_80g.2.2.2.2.1
theorem dX7_flowBy_91 : decode cX7_flowBy 91 = .ok (.bipush 6, 2) := dX7_flowBy_80g.2.2.2.2.2.1
theorem dX7_flowBy_93 : decode cX7_flowBy 93 = .ok (.invokestatic 91, 3) := dX7_flowBy_80g.2.2.2.2.2.2.1
theorem dX7_flowBy_96 : decode cX7_flowBy 96 = .ok (.invokestatic 96, 3) := dX7_flowBy_80g.2.2.2.2.2.2.2.1
theorem dX7_flowBy_99 : decode cX7_flowBy 99 = .ok (.ireturn, 1) := dX7_flowBy_80g.2.2.2.2.2.2.2.2
set_option maxHeartbeats 4000000 in
set_option maxRecDepth 100000 in
theorem c_X7_flowBy (l : Launch) (E : Nat → Nat) (D : va_G) (G : th_G) (h0 : Nat) (hG0 : G h0 = some (9, 0)) (x1 x2 x3 x4 : Int32) : Met l yX7_flowBy (tb (.code yX7_flowBy cX7_flowBy 8 (some .int))) (rm 3) (va_Pc [.ref h0, .int x1, .int x2, .int x3, .int x4] (th_P E D G)) (QI E D G (fun r => True)) 0 0 (th_A G) := by
  refine Met.ofW (cc := cX7_flowBy) (maxL := 8) (ret := (some .int)) (by decide) rfl ?_
  intro p e s m args below meth c s₁ B hml hv
  obtain ⟨hav, hI, hN, hK⟩ := hv
  have hx := B.exec
  have hb := B.bytes
  have hr := B.returns
  have hts := atoms_spec (ws := tb (.code yX7_flowBy cX7_flowBy 8 (some .int))) B.pre
  have hown : s.vm.findClass RX7 = some m.cls := findClass_of_methodNamed B.named
  have hlocks := B.notSynchronized
  have hS : va_S (th_A G) s.heap s.heap [] := va_S.rf
  have hl := lv_entry ([.ref h0, .int x1, .int x2, .int x3, .int x4]) (n := 8) (Nat.le_of_ble_eq_true rfl)
  rw [show entryFrame m args 8 = entryFrame m ([.ref h0, .int x1, .int x2, .int x3, .int x4] : List Value).toArray 8 from by rw [hav], lg_entry_eq]
  generalize (lg_sl ([.ref h0, .int x1, .int x2, .int x3, .int x4]) ++ List.replicate (8 - (lg_sl ([.ref h0, .int x1, .int x2, .int x3, .int x4])).length) Slot.unset).toArray = ls at hl ⊢
  have hl : lv_has ls 8 [(0, .ref h0), (1, .int x1), (2, .int x2), (3, .int x3), (4, .int x4)] := hl
  generalize hR : (headSpec (tb (.code yX7_flowBy cX7_flowBy 8 (some .int))) (rm 3)).room = R
  have hR := hR.symm
  generalize hQ : MQ below (QI E D G (fun r => True)) args s 0 0 (th_A G) = QF
  have hQ := hQ.symm
  refine lv_aload_n hx hb dX7_flowBy_0 rfl (lv_at hl 0 rfl) ?_
  refine th_cVv (As := []) (rest := []) (n := 0) (d := 2) ⟨hx, hb, hml, hown, hts⟩ (c_X7_refresh l E D G h0 hG0 ) wd_536 wd_538 wp_4 wd_6 wd_539 (by decide +kernel) ⟨by rw [hR]; exact Nat.le_of_ble_eq_true rfl, by rw [hR]; exact Nat.le_of_ble_eq_true rfl⟩ hI hN hK hS (rc_9 hI hG0 List.not_mem_nil) rfl rfl hl.1 rfl (Nat.le_of_ble_eq_true rfl) dX7_flowBy_1 ⟨Nat.zero_le _, Nat.zero_le _⟩ (fun H locs hI hS => ?_)
  refine lv_aload_n hx hb dX7_flowBy_4 rfl (lv_at hl 0 rfl) ?_
  obtain ⟨a2, a4, a6, a8, a10, a12, w14, hO, hq3, hq5, hq7, hq9, hq11, hq13⟩ := op_9 hI hG0 List.not_mem_nil
  have hI := th_I.weak (a := h0) hI
  refine th_get hx hb hts inT7 hown hK hO rfl 0 (by decide) (hts _ (tb_c wd_189)) rfl rfl dX7_flowBy_5 ?_
  have hI := th_I.close hI hG0 hO (ok_9 hq3 hq5 hq7 hq9 hq11 hq13)
  refine th_cVq (As := []) (rest := []) (n := 0) (d := 0) ⟨hx, hb, hml, hown, hts⟩ (c_X6_lawInForce l E D G a2 hq3 ) wd_562 wd_563 wd_564 wd_2 wd_565 (by decide +kernel) ⟨by rw [hR]; exact Nat.le_of_ble_eq_true rfl, by rw [hR]; exact Nat.le_of_ble_eq_true rfl⟩ hI hN hK hS (rc_6 hI hq3 List.not_mem_nil) rfl rfl hl.1 rfl (Nat.le_of_ble_eq_true rfl) dX7_flowBy_8 ⟨Nat.zero_le _, Nat.zero_le _⟩ (fun r15 H locs hp hI hS => ?_)
  obtain _ | a16 := r15
  · skip
    refine lv_astoreN (lv' := [(5, .null), (0, .ref h0), (1, .int x1), (2, .int x2), (3, .int x3), (4, .int x4)]) hx hb dX7_flowBy_11 hl (by decide) rfl (fun ls hl => ?_)
    refine lv_ldc hx hb hown (hts _ (tb_c wd_566)) dX7_flowBy_13 ?_
    refine lv_istore (lv' := [(6, .int (-2000000000)), (5, .null), (0, .ref h0), (1, .int x1), (2, .int x2), (3, .int x3), (4, .int x4)]) hx hb dX7_flowBy_15 hl (by decide) rfl (fun ls hl => ?_)
    refine lv_aloadN hx hb dX7_flowBy_17 (lv_at hl 1 rfl) ?_
    refine lv_ifnullN (tgt := 63) hx hb dX7_flowBy_19 (by decide) ?_
    refine lv_iload hx hb dX7_flowBy_63 (lv_at hl 0 rfl) ?_
    refine lv_ldc hx hb hown (hts _ (tb_c wd_566)) dX7_flowBy_65 ?_
    refine lv_icmp_ne (tgt := 83) hx hb dX7_flowBy_67 (by decide) (fun c19 => ?_) (fun c19 => ?_)
    · skip
      have k20 := iv_ne (X := (-2000000000)) (Y := (-2000000000)) (by decide) (by decide) c19
      exfalso; omega
    · skip
      have k21 := iv_eq (X := (-2000000000)) (Y := (-2000000000)) (by decide) (by decide) c19
      refine lv_aload_n hx hb dX7_flowBy_70 rfl (lv_at hl 2 rfl) ?_
      obtain ⟨a22, a24, a26, a28, a30, a32, w34, hO, hq23, hq25, hq27, hq29, hq31, hq33⟩ := op_9 hI hG0 List.not_mem_nil
      have hI := th_I.weak (a := h0) hI
      refine th_get hx hb hts inT7 hown hK hO rfl 0 (by decide) (hts _ (tb_c wd_189)) rfl rfl dX7_flowBy_71 ?_
      have hI := th_I.close hI hG0 hO (ok_9 hq23 hq25 hq27 hq29 hq31 hq33)
      obtain ⟨a35, a37, a39, a41, a43, a45, a47, a49, a51, a53, w55, w58, w59, w60, hO, hq36, hq38, hq40, hq42, hq44, hq46, hq48, hq50, hq52, hq54, ⟨k56, k57⟩, k61⟩ := op_6 hI hq23 List.not_mem_nil
      have hI := th_I.weak (a := a22) hI
      refine th_getN hx hb hts inT6 hown hK hN hO rfl 12 (by decide) wn_89 rfl rfl dX7_flowBy_74 ?_
      refine lv_iload hx hb dX7_flowBy_77 (lv_at hl 6 rfl) ?_
      refine lv_isub hx hb dX7_flowBy_79 ?_
      refine lv_topi (fun v62 e63 => ?_)
      try have tv62 : v62.toInt = w59.toInt - x4.toInt := iv_sub rfl rfl e63 (by omega) (by omega)
      refine lv_goto (tgt := 85) hx hb dX7_flowBy_80 (by decide) ?_
      refine lv_istore (lv' := [(7, .int v62), (6, .int (-2000000000)), (5, .null), (0, .ref h0), (1, .int x1), (2, .int x2), (3, .int x3), (4, .int x4)]) hx hb dX7_flowBy_85 hl (by decide) rfl (fun ls hl => ?_)
      refine lv_bipush (v := (-6)) hx hb dX7_flowBy_87 (by decide) ?_
      refine lv_iload hx hb dX7_flowBy_89 (lv_at hl 0 rfl) ?_
      refine lv_bipush (v := 6) hx hb dX7_flowBy_91 (by decide) ?_
      refine va_mmin hx hb (hml.trans hl.1.symm) hown (hts _ (tb_c wd_582)) (hts _ (tb_c wd_583)) (hts _ (tb_c wd_4)) (hts _ (tb_c wd_584)) (by rw [hR]; exact Nat.le_of_ble_eq_true rfl) (by rw [hR]; exact Nat.le_of_ble_eq_true rfl) (Nat.zero_le _) (Nat.zero_le _) dX7_flowBy_93 ?_
      refine lv_topi (fun v64 e65 => ?_)
      have tv64 := iv_min e65
      rw [show (6 : Int32).toInt = 6 from by decide] at tv64
      refine va_mmax hx hb (hml.trans hl.1.symm) hown (hts _ (tb_c wd_585)) (hts _ (tb_c wd_43)) (hts _ (tb_c wd_4)) (hts _ (tb_c wd_44)) (by rw [hR]; exact Nat.le_of_ble_eq_true rfl) (by rw [hR]; exact Nat.le_of_ble_eq_true rfl) (Nat.zero_le _) (Nat.zero_le _) dX7_flowBy_96 ?_
      refine lv_topi (fun v66 e67 => ?_)
      have tv66 := iv_max e67
      rw [show ((-6) : Int32).toInt = -6 from by decide] at tv66
      have hI := th_I.close hI hq23 hO (ok_6 hq36 hq38 hq40 hq42 hq44 hq46 hq48 hq50 hq52 hq54 ⟨by omega, by omega⟩ k61)
      have hpost : True := trivial
      rw [hQ]
      exact W.iret (v := v66) hx hb hr (fun t ht hW => ⟨⟨v66, (), rfl, hpost, by rw [ht]; exact hI, hN.warm hW, va_K.moved hW.alike hK⟩, hS.F ht⟩) hS.2.2 dX7_flowBy_99
  · skip
    obtain ⟨m18, hq17⟩ := hp _ rfl
    refine lv_astore (lv' := [(5, .ref a16), (0, .ref h0), (1, .int x1), (2, .int x2), (3, .int x3), (4, .int x4)]) hx hb dX7_flowBy_11 hl (by decide) rfl (fun ls hl => ?_)
    refine lv_ldc hx hb hown (hts _ (tb_c wd_566)) dX7_flowBy_13 ?_
    refine lv_istore (lv' := [(6, .int (-2000000000)), (5, .ref a16), (0, .ref h0), (1, .int x1), (2, .int x2), (3, .int x3), (4, .int x4)]) hx hb dX7_flowBy_15 hl (by decide) rfl (fun ls hl => ?_)
    refine lv_aload hx hb dX7_flowBy_17 (lv_at hl 1 rfl) ?_
    refine lv_ifnull hx hb dX7_flowBy_19 ?_
    refine lv_iload_n hx hb dX7_flowBy_22 rfl (lv_at hl 3 rfl) ?_
    refine th_cSN (As := [.int x1]) (rest := []) (n := 1) (d := 0) ⟨hx, hb, hml, hown, hts⟩ (c_X11_isCell l H x1) wn_534 wd_402 wd_1 wd_403 (by decide +kernel) ⟨by rw [hR]; exact Nat.le_of_ble_eq_true rfl, by rw [hR]; exact Nat.le_of_ble_eq_true rfl⟩ hN hS rfl hl.1 rfl (Nat.le_of_ble_eq_true rfl) dX7_flowBy_23 ⟨Nat.zero_le _, Nat.zero_le _⟩ (fun r68 locs hp hS => ?_)
    rcases hp with ⟨rfl, hp⟩ | ⟨rfl, hp⟩
    · skip
      try simp only [rg, not_and, Int.not_le] at hp
      have hp69 := hp
      refine lv_if_eq (tgt := 63) hx hb dX7_flowBy_26 (by decide) (fun c => absurd c (by decide)) (fun _ => ?_)
      refine lv_aload_n hx hb dX7_flowBy_29 rfl (lv_at hl 2 rfl) ?_
      obtain ⟨a70, a72, a74, a76, a78, a80, w82, hO, hq71, hq73, hq75, hq77, hq79, hq81⟩ := op_9 hI hG0 List.not_mem_nil
      have hI := th_I.weak (a := h0) hI
      refine th_get hx hb hts inT7 hown hK hO rfl 1 (by decide) (hts _ (tb_c wd_190)) rfl rfl dX7_flowBy_30 ?_
      refine lv_iload_n hx hb dX7_flowBy_33 rfl (lv_at hl 3 rfl) ?_
      refine lv_iload_n hx hb dX7_flowBy_34 rfl (lv_at hl 4 rfl) ?_
      refine lv_iload_n hx hb dX7_flowBy_35 rfl (lv_at hl 5 rfl) ?_
      refine lv_iload hx hb dX7_flowBy_36 (lv_at hl 6 rfl) ?_
      refine lv_aload_n hx hb dX7_flowBy_38 rfl (lv_at hl 2 rfl) ?_
      refine th_get hx hb hts inT7 hown hK hO rfl 5 (by decide) (hts _ (tb_c wd_194)) rfl rfl dX7_flowBy_39 ?_
      refine lv_iload_n hx hb dX7_flowBy_42 rfl (lv_at hl 3 rfl) ?_
      obtain ⟨_, hA83⟩ := op_0 hI hq81 (th_ne hG0 hq81 (show (9 : Nat) ≠ 0 by decide))
      refine th_iald hx hb hK hA83 0 rfl (iv_in (X := x1.toInt) rfl (by omega) (by omega)) dX7_flowBy_43 (fun v84 _ => ?_)
      refine lv_aload_n hx hb dX7_flowBy_44 rfl (lv_at hl 2 rfl) ?_
      refine th_get hx hb hts inT7 hown hK hO rfl 0 (by decide) (hts _ (tb_c wd_189)) rfl rfl dX7_flowBy_45 ?_
      have hI := th_I.close hI hG0 hO (ok_9 hq71 hq73 hq75 hq77 hq79 hq81)
      refine th_cVv (As := [.int x1, .int x2, .int x3, .int x4, .int v84, .ref a70]) (rest := []) (n := 6) (d := 0) ⟨hx, hb, hml, hown, hts⟩ (c_X0_about l E D G a72 hq73 x1 x2 x3 x4 v84 a70 hq71) wd_567 wd_568 wd_569 wd_7 wd_570 (by decide +kernel) ⟨by rw [hR]; exact Nat.le_of_ble_eq_true rfl, by rw [hR]; exact Nat.le_of_ble_eq_true rfl⟩ hI hN hK hS (rc_8 hI hq73 List.not_mem_nil) rfl rfl hl.1 rfl (Nat.le_of_ble_eq_true rfl) dX7_flowBy_48 ⟨Nat.zero_le _, Nat.zero_le _⟩ (fun H locs hI hS => ?_)
      refine lv_aload_n hx hb dX7_flowBy_51 rfl (lv_at hl 2 rfl) ?_
      obtain ⟨a86, a88, a90, a92, a94, a96, w98, hO, hq87, hq89, hq91, hq93, hq95, hq97⟩ := op_9 hI hG0 List.not_mem_nil
      have hI := th_I.weak (a := h0) hI
      refine th_get hx hb hts inT7 hown hK hO rfl 1 (by decide) (hts _ (tb_c wd_190)) rfl rfl dX7_flowBy_52 ?_
      refine lv_aload hx hb dX7_flowBy_55 (lv_at hl 1 rfl) ?_
      refine lv_iconst (v := 0) hx hb dX7_flowBy_57 (by decide) ?_
      have hI := th_I.close hI hG0 hO (ok_9 hq87 hq89 hq91 hq93 hq95 hq97)
      refine th_cVi (As := [.ref a16, .int 0]) (rest := []) (n := 2) (d := 1) ⟨hx, hb, hml, hown, hts⟩ (c_X0_tells l E D G a88 hq89 a16 (m18) hq17 0) wd_571 wd_572 wd_573 wd_7 wd_574 (by decide +kernel) ⟨by rw [hR]; exact Nat.le_of_ble_eq_true rfl, by rw [hR]; exact Nat.le_of_ble_eq_true rfl⟩ hI hN hK hS (rc_8 hI hq89 List.not_mem_nil) rfl rfl hl.1 rfl (Nat.le_of_ble_eq_true rfl) dX7_flowBy_58 ⟨Nat.zero_le _, Nat.zero_le _⟩ (fun r99 H locs hp hI hS => ?_)
      refine lv_istore (lv' := [(6, .int r99), (5, .ref a16), (0, .ref h0), (1, .int x1), (2, .int x2), (3, .int x3), (4, .int x4)]) hx hb dX7_flowBy_61 hl (by decide) rfl (fun ls hl => ?_)
      refine lv_iload hx hb dX7_flowBy_63 (lv_at hl 0 rfl) ?_
      refine lv_ldc hx hb hown (hts _ (tb_c wd_566)) dX7_flowBy_65 ?_
      have k100 := iv_lo r99
      have k101 := iv_hi r99
      refine lv_icmp_ne (tgt := 83) hx hb dX7_flowBy_67 (by decide) (fun c102 => ?_) (fun c102 => ?_)
      · skip
        have k103 := iv_ne (X := r99.toInt) (Y := (-2000000000)) rfl (by decide) c102
        refine lv_iload hx hb dX7_flowBy_83 (lv_at hl 0 rfl) ?_
        refine lv_istore (lv' := [(7, .int r99), (6, .int r99), (5, .ref a16), (0, .ref h0), (1, .int x1), (2, .int x2), (3, .int x3), (4, .int x4)]) hx hb dX7_flowBy_85 hl (by decide) rfl (fun ls hl => ?_)
        refine lv_bipush (v := (-6)) hx hb dX7_flowBy_87 (by decide) ?_
        refine lv_iload hx hb dX7_flowBy_89 (lv_at hl 0 rfl) ?_
        refine lv_bipush (v := 6) hx hb dX7_flowBy_91 (by decide) ?_
        refine va_mmin hx hb (hml.trans hl.1.symm) hown (hts _ (tb_c wd_582)) (hts _ (tb_c wd_583)) (hts _ (tb_c wd_4)) (hts _ (tb_c wd_584)) (by rw [hR]; exact Nat.le_of_ble_eq_true rfl) (by rw [hR]; exact Nat.le_of_ble_eq_true rfl) (Nat.zero_le _) (Nat.zero_le _) dX7_flowBy_93 ?_
        refine lv_topi (fun v104 e105 => ?_)
        have tv104 := iv_min e105
        rw [show (6 : Int32).toInt = 6 from by decide] at tv104
        refine va_mmax hx hb (hml.trans hl.1.symm) hown (hts _ (tb_c wd_585)) (hts _ (tb_c wd_43)) (hts _ (tb_c wd_4)) (hts _ (tb_c wd_44)) (by rw [hR]; exact Nat.le_of_ble_eq_true rfl) (by rw [hR]; exact Nat.le_of_ble_eq_true rfl) (Nat.zero_le _) (Nat.zero_le _) dX7_flowBy_96 ?_
        refine lv_topi (fun v106 e107 => ?_)
        have tv106 := iv_max e107
        rw [show ((-6) : Int32).toInt = -6 from by decide] at tv106
        have hpost : True := trivial
        rw [hQ]
        exact W.iret (v := v106) hx hb hr (fun t ht hW => ⟨⟨v106, (), rfl, hpost, by rw [ht]; exact hI, hN.warm hW, va_K.moved hW.alike hK⟩, hS.F ht⟩) hS.2.2 dX7_flowBy_99
      · skip
        have k108 := iv_eq (X := r99.toInt) (Y := (-2000000000)) rfl (by decide) c102
        refine lv_aload_n hx hb dX7_flowBy_70 rfl (lv_at hl 2 rfl) ?_
        obtain ⟨a109, a111, a113, a115, a117, a119, w121, hO, hq110, hq112, hq114, hq116, hq118, hq120⟩ := op_9 hI hG0 List.not_mem_nil
        have hI := th_I.weak (a := h0) hI
        refine th_get hx hb hts inT7 hown hK hO rfl 0 (by decide) (hts _ (tb_c wd_189)) rfl rfl dX7_flowBy_71 ?_
        have hI := th_I.close hI hG0 hO (ok_9 hq110 hq112 hq114 hq116 hq118 hq120)
        obtain ⟨a122, a124, a126, a128, a130, a132, a134, a136, a138, a140, w142, w145, w146, w147, hO, hq123, hq125, hq127, hq129, hq131, hq133, hq135, hq137, hq139, hq141, ⟨k143, k144⟩, k148⟩ := op_6 hI hq110 List.not_mem_nil
        have hI := th_I.weak (a := a109) hI
        refine th_getN hx hb hts inT6 hown hK hN hO rfl 12 (by decide) wn_89 rfl rfl dX7_flowBy_74 ?_
        refine lv_iload hx hb dX7_flowBy_77 (lv_at hl 6 rfl) ?_
        refine lv_isub hx hb dX7_flowBy_79 ?_
        refine lv_topi (fun v149 e150 => ?_)
        try have tv149 : v149.toInt = w146.toInt - x4.toInt := iv_sub rfl rfl e150 (by omega) (by omega)
        refine lv_goto (tgt := 85) hx hb dX7_flowBy_80 (by decide) ?_
        refine lv_istore (lv' := [(7, .int v149), (6, .int r99), (5, .ref a16), (0, .ref h0), (1, .int x1), (2, .int x2), (3, .int x3), (4, .int x4)]) hx hb dX7_flowBy_85 hl (by decide) rfl (fun ls hl => ?_)
        refine lv_bipush (v := (-6)) hx hb dX7_flowBy_87 (by decide) ?_
        refine lv_iload hx hb dX7_flowBy_89 (lv_at hl 0 rfl) ?_
        refine lv_bipush (v := 6) hx hb dX7_flowBy_91 (by decide) ?_
        refine va_mmin hx hb (hml.trans hl.1.symm) hown (hts _ (tb_c wd_582)) (hts _ (tb_c wd_583)) (hts _ (tb_c wd_4)) (hts _ (tb_c wd_584)) (by rw [hR]; exact Nat.le_of_ble_eq_true rfl) (by rw [hR]; exact Nat.le_of_ble_eq_true rfl) (Nat.zero_le _) (Nat.zero_le _) dX7_flowBy_93 ?_
        refine lv_topi (fun v151 e152 => ?_)
        have tv151 := iv_min e152
        rw [show (6 : Int32).toInt = 6 from by decide] at tv151
        refine va_mmax hx hb (hml.trans hl.1.symm) hown (hts _ (tb_c wd_585)) (hts _ (tb_c wd_43)) (hts _ (tb_c wd_4)) (hts _ (tb_c wd_44)) (by rw [hR]; exact Nat.le_of_ble_eq_true rfl) (by rw [hR]; exact Nat.le_of_ble_eq_true rfl) (Nat.zero_le _) (Nat.zero_le _) dX7_flowBy_96 ?_
        refine lv_topi (fun v153 e154 => ?_)
        have tv153 := iv_max e154
        rw [show ((-6) : Int32).toInt = -6 from by decide] at tv153
        have hI := th_I.close hI hq110 hO (ok_6 hq123 hq125 hq127 hq129 hq131 hq133 hq135 hq137 hq139 hq141 ⟨by omega, by omega⟩ k148)
        have hpost : True := trivial
        rw [hQ]
        exact W.iret (v := v153) hx hb hr (fun t ht hW => ⟨⟨v153, (), rfl, hpost, by rw [ht]; exact hI, hN.warm hW, va_K.moved hW.alike hK⟩, hS.F ht⟩) hS.2.2 dX7_flowBy_99
    · skip
      try simp only [rg, not_and, Int.not_le] at hp
      have hp155 := hp
      refine lv_if_eq (tgt := 63) hx hb dX7_flowBy_26 (by decide) (fun _ => ?_) (fun c => absurd c (by decide))
      refine lv_iload hx hb dX7_flowBy_63 (lv_at hl 0 rfl) ?_
      refine lv_ldc hx hb hown (hts _ (tb_c wd_566)) dX7_flowBy_65 ?_
      refine lv_icmp_ne (tgt := 83) hx hb dX7_flowBy_67 (by decide) (fun c156 => ?_) (fun c156 => ?_)
      · skip
        have k157 := iv_ne (X := (-2000000000)) (Y := (-2000000000)) (by decide) (by decide) c156
        exfalso; omega
      · skip
        have k158 := iv_eq (X := (-2000000000)) (Y := (-2000000000)) (by decide) (by decide) c156
        refine lv_aload_n hx hb dX7_flowBy_70 rfl (lv_at hl 2 rfl) ?_
        obtain ⟨a159, a161, a163, a165, a167, a169, w171, hO, hq160, hq162, hq164, hq166, hq168, hq170⟩ := op_9 hI hG0 List.not_mem_nil
        have hI := th_I.weak (a := h0) hI
        refine th_get hx hb hts inT7 hown hK hO rfl 0 (by decide) (hts _ (tb_c wd_189)) rfl rfl dX7_flowBy_71 ?_
        have hI := th_I.close hI hG0 hO (ok_9 hq160 hq162 hq164 hq166 hq168 hq170)
        obtain ⟨a172, a174, a176, a178, a180, a182, a184, a186, a188, a190, w192, w195, w196, w197, hO, hq173, hq175, hq177, hq179, hq181, hq183, hq185, hq187, hq189, hq191, ⟨k193, k194⟩, k198⟩ := op_6 hI hq160 List.not_mem_nil
        have hI := th_I.weak (a := a159) hI
        refine th_getN hx hb hts inT6 hown hK hN hO rfl 12 (by decide) wn_89 rfl rfl dX7_flowBy_74 ?_
        refine lv_iload hx hb dX7_flowBy_77 (lv_at hl 6 rfl) ?_
        refine lv_isub hx hb dX7_flowBy_79 ?_
        refine lv_topi (fun v199 e200 => ?_)
        try have tv199 : v199.toInt = w196.toInt - x4.toInt := iv_sub rfl rfl e200 (by omega) (by omega)
        refine lv_goto (tgt := 85) hx hb dX7_flowBy_80 (by decide) ?_
        refine lv_istore (lv' := [(7, .int v199), (6, .int (-2000000000)), (5, .ref a16), (0, .ref h0), (1, .int x1), (2, .int x2), (3, .int x3), (4, .int x4)]) hx hb dX7_flowBy_85 hl (by decide) rfl (fun ls hl => ?_)
        refine lv_bipush (v := (-6)) hx hb dX7_flowBy_87 (by decide) ?_
        refine lv_iload hx hb dX7_flowBy_89 (lv_at hl 0 rfl) ?_
        refine lv_bipush (v := 6) hx hb dX7_flowBy_91 (by decide) ?_
        refine va_mmin hx hb (hml.trans hl.1.symm) hown (hts _ (tb_c wd_582)) (hts _ (tb_c wd_583)) (hts _ (tb_c wd_4)) (hts _ (tb_c wd_584)) (by rw [hR]; exact Nat.le_of_ble_eq_true rfl) (by rw [hR]; exact Nat.le_of_ble_eq_true rfl) (Nat.zero_le _) (Nat.zero_le _) dX7_flowBy_93 ?_
        refine lv_topi (fun v201 e202 => ?_)
        have tv201 := iv_min e202
        rw [show (6 : Int32).toInt = 6 from by decide] at tv201
        refine va_mmax hx hb (hml.trans hl.1.symm) hown (hts _ (tb_c wd_585)) (hts _ (tb_c wd_43)) (hts _ (tb_c wd_4)) (hts _ (tb_c wd_44)) (by rw [hR]; exact Nat.le_of_ble_eq_true rfl) (by rw [hR]; exact Nat.le_of_ble_eq_true rfl) (Nat.zero_le _) (Nat.zero_le _) dX7_flowBy_96 ?_
        refine lv_topi (fun v203 e204 => ?_)
        have tv203 := iv_max e204
        rw [show ((-6) : Int32).toInt = -6 from by decide] at tv203
        have hI := th_I.close hI hq160 hO (ok_6 hq173 hq175 hq177 hq179 hq181 hq183 hq185 hq187 hq189 hq191 ⟨by omega, by omega⟩ k198)
        have hpost : True := trivial
        rw [hQ]
        exact W.iret (v := v203) hx hb hr (fun t ht hW => ⟨⟨v203, (), rfl, hpost, by rw [ht]; exact hI, hN.warm hW, va_K.moved hW.alike hK⟩, hS.F ht⟩) hS.2.2 dX7_flowBy_99
theorem dX7_stepFrom_0g : (decode cX7_stepFrom 0 = .ok (.iload_n 1, 1)) ∧ (decode cX7_stepFrom 1 = .ok (.invokestatic 43, 3)) ∧ (decode cX7_stepFrom 4 = .ok (.ifCond .eq 10, 3)) ∧ (decode cX7_stepFrom 7 = .ok (.iload_n 2, 1)) ∧ (decode cX7_stepFrom 8 = .ok (.invokestatic 47, 3)) ∧ (decode cX7_stepFrom 11 = .ok (.ifCond .ne 5, 3)) ∧ (decode cX7_stepFrom 14 = .ok (.iload_n 1, 1)) ∧ (decode cX7_stepFrom 15 = .ok (.ireturn, 1)) ∧ (decode cX7_stepFrom 16 = .ok (.aload_n 0, 1)) ∧ (decode cX7_stepFrom 17 = .ok (.invokevirtual 50, 3)) := by decide +kernel
theorem dX7_stepFrom_0 : decode cX7_stepFrom 0 = .ok (.iload_n 1, 1) := dX7_stepFrom_0g.1
theorem dX7_stepFrom_1 : decode cX7_stepFrom 1 = .ok (.invokestatic 43, 3) := dX7_stepFrom_0g.2.1
theorem dX7_stepFrom_4 : decode cX7_stepFrom 4 = .ok (.ifCond .eq 10, 3) := dX7_stepFrom_0g.2.2.1
theorem dX7_stepFrom_7 : decode cX7_stepFrom 7 = .ok (.iload_n 2, 1) := dX7_stepFrom_0g.2.2.2.1
theorem dX7_stepFrom_8 : decode cX7_stepFrom 8 = .ok (.invokestatic 47, 3) := dX7_stepFrom_0g.2.2.2.2.1
theorem dX7_stepFrom_11 : decode cX7_stepFrom 11 = .ok (.ifCond .ne 5, 3) := dX7_stepFrom_0g.2.2.2.2.2.1
theorem dX7_stepFrom_14 : decode cX7_stepFrom 14 = .ok (.iload_n 1, 1) := dX7_stepFrom_0g.2.2.2.2.2.2.1
theorem dX7_stepFrom_15 : decode cX7_stepFrom 15 = .ok (.ireturn, 1) := dX7_stepFrom_0g.2.2.2.2.2.2.2.1
theorem dX7_stepFrom_16 : decode cX7_stepFrom 16 = .ok (.aload_n 0, 1) := dX7_stepFrom_0g.2.2.2.2.2.2.2.2.1
theorem dX7_stepFrom_17 : decode cX7_stepFrom 17 = .ok (.invokevirtual 50, 3) := dX7_stepFrom_0g.2.2.2.2.2.2.2.2.2
theorem dX7_stepFrom_20g : (decode cX7_stepFrom 20 = .ok (.iload_n 2, 1)) ∧ (decode cX7_stepFrom 21 = .ok (.bipush 24, 2)) ∧ (decode cX7_stepFrom 23 = .ok (.imul, 1)) ∧ (decode cX7_stepFrom 24 = .ok (.iload_n 1, 1)) ∧ (decode cX7_stepFrom 25 = .ok (.iadd, 1)) ∧ (decode cX7_stepFrom 26 = .ok (.istore_n 3, 1)) ∧ (decode cX7_stepFrom 27 = .ok (.aload_n 0, 1)) ∧ (decode cX7_stepFrom 28 = .ok (.getfield 18, 3)) ∧ (decode cX7_stepFrom 31 = .ok (.iload_n 3, 1)) ∧ (decode cX7_stepFrom 32 = .ok (.iaload, 1)) := by decide +kernel
theorem dX7_stepFrom_20 : decode cX7_stepFrom 20 = .ok (.iload_n 2, 1) := dX7_stepFrom_20g.1
theorem dX7_stepFrom_21 : decode cX7_stepFrom 21 = .ok (.bipush 24, 2) := dX7_stepFrom_20g.2.1
theorem dX7_stepFrom_23 : decode cX7_stepFrom 23 = .ok (.imul, 1) := dX7_stepFrom_20g.2.2.1
theorem dX7_stepFrom_24 : decode cX7_stepFrom 24 = .ok (.iload_n 1, 1) := dX7_stepFrom_20g.2.2.2.1
theorem dX7_stepFrom_25 : decode cX7_stepFrom 25 = .ok (.iadd, 1) := dX7_stepFrom_20g.2.2.2.2.1
theorem dX7_stepFrom_26 : decode cX7_stepFrom 26 = .ok (.istore_n 3, 1) := dX7_stepFrom_20g.2.2.2.2.2.1
theorem dX7_stepFrom_27 : decode cX7_stepFrom 27 = .ok (.aload_n 0, 1) := dX7_stepFrom_20g.2.2.2.2.2.2.1
theorem dX7_stepFrom_28 : decode cX7_stepFrom 28 = .ok (.getfield 18, 3) := dX7_stepFrom_20g.2.2.2.2.2.2.2.1
theorem dX7_stepFrom_31 : decode cX7_stepFrom 31 = .ok (.iload_n 3, 1) := dX7_stepFrom_20g.2.2.2.2.2.2.2.2.1
theorem dX7_stepFrom_32 : decode cX7_stepFrom 32 = .ok (.iaload, 1) := dX7_stepFrom_20g.2.2.2.2.2.2.2.2.2
theorem dX7_stepFrom_33g : (decode cX7_stepFrom 33 = .ok (.ifCond .ne 58, 3)) ∧ (decode cX7_stepFrom 36 = .ok (.aload_n 0, 1)) ∧ (decode cX7_stepFrom 37 = .ok (.getfield 35, 3)) ∧ (decode cX7_stepFrom 40 = .ok (.iload_n 2, 1)) ∧ (decode cX7_stepFrom 41 = .ok (.invokevirtual 53, 3)) ∧ (decode cX7_stepFrom 44 = .ok (.istore 4, 2)) ∧ (decode cX7_stepFrom 46 = .ok (.aload_n 0, 1)) ∧ (decode cX7_stepFrom 47 = .ok (.iload_n 1, 1)) ∧ (decode cX7_stepFrom 48 = .ok (.iload_n 2, 1)) ∧ (decode cX7_stepFrom 49 = .ok (.iload 4, 2)) := by decide +kernel
theorem dX7_stepFrom_33 : decode cX7_stepFrom 33 = .ok (.ifCond .ne 58, 3) := dX7_stepFrom_33g.1
theorem dX7_stepFrom_36 : decode cX7_stepFrom 36 = .ok (.aload_n 0, 1) := dX7_stepFrom_33g.2.1
theorem dX7_stepFrom_37 : decode cX7_stepFrom 37 = .ok (.getfield 35, 3) := dX7_stepFrom_33g.2.2.1
theorem dX7_stepFrom_40 : decode cX7_stepFrom 40 = .ok (.iload_n 2, 1) := dX7_stepFrom_33g.2.2.2.1
theorem dX7_stepFrom_41 : decode cX7_stepFrom 41 = .ok (.invokevirtual 53, 3) := dX7_stepFrom_33g.2.2.2.2.1
theorem dX7_stepFrom_44 : decode cX7_stepFrom 44 = .ok (.istore 4, 2) := dX7_stepFrom_33g.2.2.2.2.2.1
theorem dX7_stepFrom_46 : decode cX7_stepFrom 46 = .ok (.aload_n 0, 1) := dX7_stepFrom_33g.2.2.2.2.2.2.1
theorem dX7_stepFrom_47 : decode cX7_stepFrom 47 = .ok (.iload_n 1, 1) := dX7_stepFrom_33g.2.2.2.2.2.2.2.1
theorem dX7_stepFrom_48 : decode cX7_stepFrom 48 = .ok (.iload_n 2, 1) := dX7_stepFrom_33g.2.2.2.2.2.2.2.2.1
theorem dX7_stepFrom_49 : decode cX7_stepFrom 49 = .ok (.iload 4, 2) := dX7_stepFrom_33g.2.2.2.2.2.2.2.2.2
theorem dX7_stepFrom_51g : (decode cX7_stepFrom 51 = .ok (.aload_n 0, 1)) ∧ (decode cX7_stepFrom 52 = .ok (.getfield 35, 3)) ∧ (decode cX7_stepFrom 55 = .ok (.iload_n 1, 1)) ∧ (decode cX7_stepFrom 56 = .ok (.iload_n 2, 1)) ∧ (decode cX7_stepFrom 57 = .ok (.iload 4, 2)) ∧ (decode cX7_stepFrom 59 = .ok (.invokevirtual 59, 3)) ∧ (decode cX7_stepFrom 62 = .ok (.invokevirtual 63, 3)) ∧ (decode cX7_stepFrom 65 = .ok (.istore 5, 2)) ∧ (decode cX7_stepFrom 67 = .ok (.aload_n 0, 1)) ∧ (decode cX7_stepFrom 68 = .ok (.getfield 18, 3)) := by decide +kernel
theorem dX7_stepFrom_51 : decode cX7_stepFrom 51 = .ok (.aload_n 0, 1) := dX7_stepFrom_51g.1
theorem dX7_stepFrom_52 : decode cX7_stepFrom 52 = .ok (.getfield 35, 3) := dX7_stepFrom_51g.2.1
theorem dX7_stepFrom_55 : decode cX7_stepFrom 55 = .ok (.iload_n 1, 1) := dX7_stepFrom_51g.2.2.1
theorem dX7_stepFrom_56 : decode cX7_stepFrom 56 = .ok (.iload_n 2, 1) := dX7_stepFrom_51g.2.2.2.1
theorem dX7_stepFrom_57 : decode cX7_stepFrom 57 = .ok (.iload 4, 2) := dX7_stepFrom_51g.2.2.2.2.1
theorem dX7_stepFrom_59 : decode cX7_stepFrom 59 = .ok (.invokevirtual 59, 3) := dX7_stepFrom_51g.2.2.2.2.2.1
theorem dX7_stepFrom_62 : decode cX7_stepFrom 62 = .ok (.invokevirtual 63, 3) := dX7_stepFrom_51g.2.2.2.2.2.2.1
theorem dX7_stepFrom_65 : decode cX7_stepFrom 65 = .ok (.istore 5, 2) := dX7_stepFrom_51g.2.2.2.2.2.2.2.1
theorem dX7_stepFrom_67 : decode cX7_stepFrom 67 = .ok (.aload_n 0, 1) := dX7_stepFrom_51g.2.2.2.2.2.2.2.2.1
theorem dX7_stepFrom_68 : decode cX7_stepFrom 68 = .ok (.getfield 18, 3) := dX7_stepFrom_51g.2.2.2.2.2.2.2.2.2
theorem dX7_stepFrom_71g : (decode cX7_stepFrom 71 = .ok (.iload_n 3, 1)) ∧ (decode cX7_stepFrom 72 = .ok (.iload 5, 2)) ∧ (decode cX7_stepFrom 74 = .ok (.bipush 6, 2)) ∧ (decode cX7_stepFrom 76 = .ok (.iadd, 1)) ∧ (decode cX7_stepFrom 77 = .ok (.iconst 1, 1)) ∧ (decode cX7_stepFrom 78 = .ok (.iadd, 1)) ∧ (decode cX7_stepFrom 79 = .ok (.iconst 5, 1)) ∧ (decode cX7_stepFrom 80 = .ok (.ishl, 1)) ∧ (decode cX7_stepFrom 81 = .ok (.aload_n 0, 1)) ∧ (decode cX7_stepFrom 82 = .ok (.iload_n 1, 1)) := by decide +kernel
theorem dX7_stepFrom_71 : decode cX7_stepFrom 71 = .ok (.iload_n 3, 1) := dX7_stepFrom_71g.1
theorem dX7_stepFrom_72 : decode cX7_stepFrom 72 = .ok (.iload 5, 2) := dX7_stepFrom_71g.2.1
theorem dX7_stepFrom_74 : decode cX7_stepFrom 74 = .ok (.bipush 6, 2) := dX7_stepFrom_71g.2.2.1
theorem dX7_stepFrom_76 : decode cX7_stepFrom 76 = .ok (.iadd, 1) := dX7_stepFrom_71g.2.2.2.1
theorem dX7_stepFrom_77 : decode cX7_stepFrom 77 = .ok (.iconst 1, 1) := dX7_stepFrom_71g.2.2.2.2.1
theorem dX7_stepFrom_78 : decode cX7_stepFrom 78 = .ok (.iadd, 1) := dX7_stepFrom_71g.2.2.2.2.2.1
theorem dX7_stepFrom_79 : decode cX7_stepFrom 79 = .ok (.iconst 5, 1) := dX7_stepFrom_71g.2.2.2.2.2.2.1
theorem dX7_stepFrom_80 : decode cX7_stepFrom 80 = .ok (.ishl, 1) := dX7_stepFrom_71g.2.2.2.2.2.2.2.1
theorem dX7_stepFrom_81 : decode cX7_stepFrom 81 = .ok (.aload_n 0, 1) := dX7_stepFrom_71g.2.2.2.2.2.2.2.2.1
theorem dX7_stepFrom_82 : decode cX7_stepFrom 82 = .ok (.iload_n 1, 1) := dX7_stepFrom_71g.2.2.2.2.2.2.2.2.2
theorem dX7_stepFrom_83g : (decode cX7_stepFrom 83 = .ok (.iload_n 2, 1)) ∧ (decode cX7_stepFrom 84 = .ok (.iload 5, 2)) ∧ (decode cX7_stepFrom 86 = .ok (.invokevirtual 67, 3)) ∧ (decode cX7_stepFrom 89 = .ok (.ior, 1)) ∧ (decode cX7_stepFrom 90 = .ok (.iastore, 1)) ∧ (decode cX7_stepFrom 91 = .ok (.aload_n 0, 1)) ∧ (decode cX7_stepFrom 92 = .ok (.getfield 18, 3)) ∧ (decode cX7_stepFrom 95 = .ok (.iload_n 3, 1)) ∧ (decode cX7_stepFrom 96 = .ok (.iaload, 1)) ∧ (decode cX7_stepFrom 97 = .ok (.bipush 31, 2)) := by decide +kernel
theorem dX7_stepFrom_83 : decode cX7_stepFrom 83 = .ok (.iload_n 2, 1) := dX7_stepFrom_83g.1
theorem dX7_stepFrom_84 : decode cX7_stepFrom 84 = .ok (.iload 5, 2) := dX7_stepFrom_83g.2.1
theorem dX7_stepFrom_86 : decode cX7_stepFrom 86 = .ok (.invokevirtual 67, 3) := dX7_stepFrom_83g.2.2.1
theorem dX7_stepFrom_89 : decode cX7_stepFrom 89 = .ok (.ior, 1) := dX7_stepFrom_83g.2.2.2.1
theorem dX7_stepFrom_90 : decode cX7_stepFrom 90 = .ok (.iastore, 1) := dX7_stepFrom_83g.2.2.2.2.1
theorem dX7_stepFrom_91 : decode cX7_stepFrom 91 = .ok (.aload_n 0, 1) := dX7_stepFrom_83g.2.2.2.2.2.1
theorem dX7_stepFrom_92 : decode cX7_stepFrom 92 = .ok (.getfield 18, 3) := dX7_stepFrom_83g.2.2.2.2.2.2.1
theorem dX7_stepFrom_95 : decode cX7_stepFrom 95 = .ok (.iload_n 3, 1) := dX7_stepFrom_83g.2.2.2.2.2.2.2.1
theorem dX7_stepFrom_96 : decode cX7_stepFrom 96 = .ok (.iaload, 1) := dX7_stepFrom_83g.2.2.2.2.2.2.2.2.1
theorem dX7_stepFrom_97 : decode cX7_stepFrom 97 = .ok (.bipush 31, 2) := dX7_stepFrom_83g.2.2.2.2.2.2.2.2.2
theorem dX7_stepFrom_99g : (decode cX7_stepFrom 99 = .ok (.iand, 1)) ∧ (decode cX7_stepFrom 100 = .ok (.ireturn, 1)) := by decide +kernel
theorem dX7_stepFrom_99 : decode cX7_stepFrom 99 = .ok (.iand, 1) := dX7_stepFrom_99g.1
theorem dX7_stepFrom_100 : decode cX7_stepFrom 100 = .ok (.ireturn, 1) := dX7_stepFrom_99g.2
set_option maxHeartbeats 4000000 in
set_option maxRecDepth 100000 in
theorem c_X7_stepFrom (l : Launch) (E : Nat → Nat) (D : va_G) (G : th_G) (h0 : Nat) (hG0 : G h0 = some (9, 0)) (x1 x2 : Int32) : Met l yX7_stepFrom (tb (.code yX7_stepFrom cX7_stepFrom 6 (some .int))) (rm 4) (va_Pc [.ref h0, .int x1, .int x2] (th_P E D G)) (QI E D G (fun r => True)) 0 0 (th_A G) := by
  refine Met.ofW (cc := cX7_stepFrom) (maxL := 6) (ret := (some .int)) (by decide) rfl ?_
  intro p e s m args below meth c s₁ B hml hv
  obtain ⟨hav, hI, hN, hK⟩ := hv
  have hx := B.exec
  have hb := B.bytes
  have hr := B.returns
  have hts := atoms_spec (ws := tb (.code yX7_stepFrom cX7_stepFrom 6 (some .int))) B.pre
  have hown : s.vm.findClass RX7 = some m.cls := findClass_of_methodNamed B.named
  have hlocks := B.notSynchronized
  have hS : va_S (th_A G) s.heap s.heap [] := va_S.rf
  have hl := lv_entry ([.ref h0, .int x1, .int x2]) (n := 6) (Nat.le_of_ble_eq_true rfl)
  rw [show entryFrame m args 6 = entryFrame m ([.ref h0, .int x1, .int x2] : List Value).toArray 6 from by rw [hav], lg_entry_eq]
  generalize (lg_sl ([.ref h0, .int x1, .int x2]) ++ List.replicate (6 - (lg_sl ([.ref h0, .int x1, .int x2])).length) Slot.unset).toArray = ls at hl ⊢
  have hl : lv_has ls 6 [(0, .ref h0), (1, .int x1), (2, .int x2)] := hl
  generalize hR : (headSpec (tb (.code yX7_stepFrom cX7_stepFrom 6 (some .int))) (rm 4)).room = R
  have hR := hR.symm
  generalize hQ : MQ below (QI E D G (fun r => True)) args s 0 0 (th_A G) = QF
  have hQ := hQ.symm
  have J_14 : ∀ (H : Heap) (locs : List Loc) (ls : Array Slot) , lv_has ls 6 [(0, .ref h0), (1, .int x1), (2, .int x2)] → th_I (okC E) D G [] H → va_S (th_A G) s.heap H locs → W p l e R s m args below meth c H locs 0 0 QF (F0 m 14 ls []) := by
    intro H locs ls  hl  hI hS
    refine lv_iload_n hx hb dX7_stepFrom_14 rfl (lv_at hl 1 rfl) ?_
    have hpost : True := trivial
    rw [hQ]
    exact W.iret (v := x1) hx hb hr (fun t ht hW => ⟨⟨x1, (), rfl, hpost, by rw [ht]; exact hI, hN.warm hW, va_K.moved hW.alike hK⟩, hS.F ht⟩) hS.2.2 dX7_stepFrom_15
  refine lv_iload_n hx hb dX7_stepFrom_0 rfl (lv_at hl 1 rfl) ?_
  refine th_cSN (As := [.int x1]) (rest := []) (n := 1) (d := 0) ⟨hx, hb, hml, hown, hts⟩ (c_X11_isCell l s.heap x1) wn_534 wd_402 wd_1 wd_403 (by decide +kernel) ⟨by rw [hR]; exact Nat.le_of_ble_eq_true rfl, by rw [hR]; exact Nat.le_of_ble_eq_true rfl⟩ hN hS rfl hl.1 rfl (Nat.le_of_ble_eq_true rfl) dX7_stepFrom_1 ⟨Nat.zero_le _, Nat.zero_le _⟩ (fun r729 locs hp hS => ?_)
  rcases hp with ⟨rfl, hp⟩ | ⟨rfl, hp⟩
  · skip
    try simp only [rg, not_and, Int.not_le] at hp
    have hp730 := hp
    refine lv_if_eq (tgt := 14) hx hb dX7_stepFrom_4 (by decide) (fun c => absurd c (by decide)) (fun _ => ?_)
    refine lv_iload_n hx hb dX7_stepFrom_7 rfl (lv_at hl 2 rfl) ?_
    refine th_cSN (As := [.int x2]) (rest := []) (n := 1) (d := 0) ⟨hx, hb, hml, hown, hts⟩ (c_X11_isHour l s.heap x2) wn_535 wd_467 wd_1 wd_468 (by decide +kernel) ⟨by rw [hR]; exact Nat.le_of_ble_eq_true rfl, by rw [hR]; exact Nat.le_of_ble_eq_true rfl⟩ hN hS rfl hl.1 rfl (Nat.le_of_ble_eq_true rfl) dX7_stepFrom_8 ⟨Nat.zero_le _, Nat.zero_le _⟩ (fun r731 locs hp hS => ?_)
    rcases hp with ⟨rfl, hp⟩ | ⟨rfl, hp⟩
    · skip
      try simp only [rg, not_and, Int.not_le] at hp
      have hp732 := hp
      refine lv_if_ne (tgt := 16) hx hb dX7_stepFrom_11 (by decide) (fun _ => ?_) (fun c => absurd c (by decide))
      refine lv_aload_n hx hb dX7_stepFrom_16 rfl (lv_at hl 0 rfl) ?_
      refine th_cVv (As := []) (rest := []) (n := 0) (d := 2) ⟨hx, hb, hml, hown, hts⟩ (c_X7_refresh l E D G h0 hG0 ) wd_536 wd_538 wp_4 wd_6 wd_539 (by decide +kernel) ⟨by rw [hR]; exact Nat.le_of_ble_eq_true rfl, by rw [hR]; exact Nat.le_of_ble_eq_true rfl⟩ hI hN hK hS (rc_9 hI hG0 List.not_mem_nil) rfl rfl hl.1 rfl (Nat.le_of_ble_eq_true rfl) dX7_stepFrom_17 ⟨Nat.zero_le _, Nat.zero_le _⟩ (fun H locs hI hS => ?_)
      refine lv_iload_n hx hb dX7_stepFrom_20 rfl (lv_at hl 2 rfl) ?_
      refine lv_bipush (v := 24) hx hb dX7_stepFrom_21 (by decide) ?_
      refine lv_imul hx hb dX7_stepFrom_23 ?_
      refine lv_topi (fun v734 e735 => ?_)
      have tv734 : v734.toInt = x2.toInt * (24) := iv_mul rfl (by decide) e735 (by omega) (by omega)
      refine lv_iload_n hx hb dX7_stepFrom_24 rfl (lv_at hl 1 rfl) ?_
      refine lv_iadd hx hb dX7_stepFrom_25 ?_
      refine lv_topi (fun v736 e737 => ?_)
      have tv736 : v736.toInt = v734.toInt + x1.toInt := iv_add rfl rfl e737 (by omega) (by omega)
      refine lv_istore_n (lv' := [(3, .int v736), (0, .ref h0), (1, .int x1), (2, .int x2)]) hx hb dX7_stepFrom_26 rfl hl (by decide) rfl (fun ls hl => ?_)
      refine lv_aload_n hx hb dX7_stepFrom_27 rfl (lv_at hl 1 rfl) ?_
      obtain ⟨a738, a740, a742, a744, a746, a748, w750, hO, hq739, hq741, hq743, hq745, hq747, hq749⟩ := op_9 hI hG0 List.not_mem_nil
      have hI := th_I.weak (a := h0) hI
      refine th_get hx hb hts inT7 hown hK hO rfl 2 (by decide) (hts _ (tb_c wd_191)) rfl rfl dX7_stepFrom_28 ?_
      refine lv_iload_n hx hb dX7_stepFrom_31 rfl (lv_at hl 0 rfl) ?_
      obtain ⟨_, hA751⟩ := op_0 hI hq743 (th_ne hG0 hq743 (show (9 : Nat) ≠ 0 by decide))
      refine th_iald hx hb hK hA751 0 rfl (iv_in (X := v736.toInt) rfl (by omega) (by omega)) dX7_stepFrom_32 (fun v752 _ => ?_)
      have k753 := iv_lo v752
      have k754 := iv_hi v752
      refine lv_if_ne (tgt := 91) hx hb dX7_stepFrom_33 (by decide) (fun c755 => ?_) (fun c755 => ?_)
      · skip
        have k756 := iv_ne (X := v752.toInt) (Y := (0)) rfl (by decide) c755
        refine lv_aload_n hx hb dX7_stepFrom_91 rfl (lv_at hl 1 rfl) ?_
        refine th_get hx hb hts inT7 hown hK hO rfl 2 (by decide) (hts _ (tb_c wd_191)) rfl rfl dX7_stepFrom_92 ?_
        refine lv_iload_n hx hb dX7_stepFrom_95 rfl (lv_at hl 0 rfl) ?_
        obtain ⟨_, hA757⟩ := op_0 hI hq743 (th_ne hG0 hq743 (show (9 : Nat) ≠ 0 by decide))
        refine th_iald hx hb hK hA757 0 rfl (iv_in (X := v736.toInt) rfl (by omega) (by omega)) dX7_stepFrom_96 (fun v758 _ => ?_)
        refine lv_bipush (v := 31) hx hb dX7_stepFrom_97 (by decide) ?_
        refine lv_iand hx hb dX7_stepFrom_99 ?_
        refine lv_topi (fun v759 e760 => ?_)
        have tv759 := iv_andr (m := 31) (M := 31) e760 (by decide) (by decide)
        have hI := th_I.close hI hG0 hO (ok_9 hq739 hq741 hq743 hq745 hq747 hq749)
        have hpost : True := trivial
        rw [hQ]
        exact W.iret (v := v759) hx hb hr (fun t ht hW => ⟨⟨v759, (), rfl, hpost, by rw [ht]; exact hI, hN.warm hW, va_K.moved hW.alike hK⟩, hS.F ht⟩) hS.2.2 dX7_stepFrom_100
      · skip
        have k761 := iv_eq (X := v752.toInt) (Y := (0)) rfl (by decide) c755
        refine lv_aload_n hx hb dX7_stepFrom_36 rfl (lv_at hl 1 rfl) ?_
        refine th_get hx hb hts inT7 hown hK hO rfl 0 (by decide) (hts _ (tb_c wd_189)) rfl rfl dX7_stepFrom_37 ?_
        refine lv_iload_n hx hb dX7_stepFrom_40 rfl (lv_at hl 3 rfl) ?_
        have hI := th_I.close hI hG0 hO (ok_9 hq739 hq741 hq743 hq745 hq747 hq749)
        refine th_cVi (As := [.int x2]) (rest := []) (n := 1) (d := 1) ⟨hx, hb, hml, hown, hts⟩ (c_X6_strikeIn l E D G a738 hq739 x2) wd_545 wd_546 wd_547 wd_2 wd_548 (by decide +kernel) ⟨by rw [hR]; exact Nat.le_of_ble_eq_true rfl, by rw [hR]; exact Nat.le_of_ble_eq_true rfl⟩ hI hN hK hS (rc_6 hI hq739 List.not_mem_nil) rfl rfl hl.1 rfl (Nat.le_of_ble_eq_true rfl) dX7_stepFrom_41 ⟨Nat.zero_le _, Nat.zero_le _⟩ (fun r762 H locs hp hI hS => ?_)
        refine lv_istore (lv' := [(4, .int r762), (3, .int v736), (0, .ref h0), (1, .int x1), (2, .int x2)]) hx hb dX7_stepFrom_44 hl (by decide) rfl (fun ls hl => ?_)
        refine lv_aload_n hx hb dX7_stepFrom_46 rfl (lv_at hl 2 rfl) ?_
        refine lv_iload_n hx hb dX7_stepFrom_47 rfl (lv_at hl 3 rfl) ?_
        refine lv_iload_n hx hb dX7_stepFrom_48 rfl (lv_at hl 4 rfl) ?_
        refine lv_iload hx hb dX7_stepFrom_49 (lv_at hl 0 rfl) ?_
        refine lv_aload_n hx hb dX7_stepFrom_51 rfl (lv_at hl 2 rfl) ?_
        obtain ⟨a763, a765, a767, a769, a771, a773, w775, hO, hq764, hq766, hq768, hq770, hq772, hq774⟩ := op_9 hI hG0 List.not_mem_nil
        have hI := th_I.weak (a := h0) hI
        refine th_get hx hb hts inT7 hown hK hO rfl 0 (by decide) (hts _ (tb_c wd_189)) rfl rfl dX7_stepFrom_52 ?_
        refine lv_iload_n hx hb dX7_stepFrom_55 rfl (lv_at hl 3 rfl) ?_
        refine lv_iload_n hx hb dX7_stepFrom_56 rfl (lv_at hl 4 rfl) ?_
        refine lv_iload hx hb dX7_stepFrom_57 (lv_at hl 0 rfl) ?_
        have hI := th_I.close hI hG0 hO (ok_9 hq764 hq766 hq768 hq770 hq772 hq774)
        refine th_cVi (As := [.int x1, .int x2, .int r762]) (rest := [.int r762, .int x2, .int x1, .ref h0]) (n := 3) (d := 1) ⟨hx, hb, hml, hown, hts⟩ (c_X6_pumpedAt l E D G a763 hq764 x1 x2 r762) wd_550 wd_551 wd_552 wd_2 wd_553 (by decide +kernel) ⟨by rw [hR]; exact Nat.le_of_ble_eq_true rfl, by rw [hR]; exact Nat.le_of_ble_eq_true rfl⟩ hI hN hK hS (rc_6 hI hq764 List.not_mem_nil) rfl rfl hl.1 rfl (Nat.le_of_ble_eq_true rfl) dX7_stepFrom_59 ⟨Nat.zero_le _, Nat.zero_le _⟩ (fun r776 H locs hp hI hS => ?_)
        refine th_cVi (As := [.int x1, .int x2, .int r762, .int r776]) (rest := []) (n := 4) (d := 3) ⟨hx, hb, hml, hown, hts⟩ (c_X7_flowBy l E D G h0 hG0 x1 x2 r762 r776) wd_558 wd_560 wp_5 wd_6 wd_561 (by decide +kernel) ⟨by rw [hR]; exact Nat.le_of_ble_eq_true rfl, by rw [hR]; exact Nat.le_of_ble_eq_true rfl⟩ hI hN hK hS (rc_9 hI hG0 List.not_mem_nil) rfl rfl hl.1 rfl (Nat.le_of_ble_eq_true rfl) dX7_stepFrom_62 ⟨Nat.zero_le _, Nat.zero_le _⟩ (fun r777 H locs hp hI hS => ?_)
        refine lv_istore (lv' := [(5, .int r777), (4, .int r762), (3, .int v736), (0, .ref h0), (1, .int x1), (2, .int x2)]) hx hb dX7_stepFrom_65 hl (by decide) rfl (fun ls hl => ?_)
        refine lv_aload_n hx hb dX7_stepFrom_67 rfl (lv_at hl 3 rfl) ?_
        obtain ⟨a778, a780, a782, a784, a786, a788, w790, hO, hq779, hq781, hq783, hq785, hq787, hq789⟩ := op_9 hI hG0 List.not_mem_nil
        have hI := th_I.weak (a := h0) hI
        refine th_get hx hb hts inT7 hown hK hO rfl 2 (by decide) (hts _ (tb_c wd_191)) rfl rfl dX7_stepFrom_68 ?_
        refine lv_iload_n hx hb dX7_stepFrom_71 rfl (lv_at hl 2 rfl) ?_
        refine lv_iload hx hb dX7_stepFrom_72 (lv_at hl 0 rfl) ?_
        refine lv_bipush (v := 6) hx hb dX7_stepFrom_74 (by decide) ?_
        refine lv_iadd hx hb dX7_stepFrom_76 ?_
        refine lv_topi (fun v791 e792 => ?_)
        try have tv791 : v791.toInt = r777.toInt + (6) := iv_add rfl (by decide) e792 (by omega) (by omega)
        refine lv_iconst (v := 1) hx hb dX7_stepFrom_77 (by decide) ?_
        refine lv_iadd hx hb dX7_stepFrom_78 ?_
        refine lv_topi (fun v793 e794 => ?_)
        try have tv793 : v793.toInt = v791.toInt + (1) := iv_add rfl (by decide) e794 (by omega) (by omega)
        refine lv_iconst (v := 5) hx hb dX7_stepFrom_79 (by decide) ?_
        refine lv_ishl hx hb dX7_stepFrom_80 ?_
        refine lv_topi (fun v795 e796 => ?_)
        refine lv_aload_n hx hb dX7_stepFrom_81 rfl (lv_at hl 3 rfl) ?_
        refine lv_iload_n hx hb dX7_stepFrom_82 rfl (lv_at hl 4 rfl) ?_
        refine lv_iload_n hx hb dX7_stepFrom_83 rfl (lv_at hl 5 rfl) ?_
        refine lv_iload hx hb dX7_stepFrom_84 (lv_at hl 0 rfl) ?_
        have hI := th_I.close hI hG0 hO (ok_9 hq779 hq781 hq783 hq785 hq787 hq789)
        refine th_cVi (As := [.int x1, .int x2, .int r777]) (rest := [.int v795, .int v736, .ref a782]) (n := 3) (d := 1) ⟨hx, hb, hml, hown, hts⟩ (c_X7_walk l E D G h0 hG0 x1 x2 r777) wd_586 wd_588 wp_7 wd_6 wd_589 (by decide +kernel) ⟨by rw [hR]; exact Nat.le_of_ble_eq_true rfl, by rw [hR]; exact Nat.le_of_ble_eq_true rfl⟩ hI hN hK hS (rc_9 hI hG0 List.not_mem_nil) rfl rfl hl.1 rfl (Nat.le_of_ble_eq_true rfl) dX7_stepFrom_86 ⟨Nat.zero_le _, Nat.zero_le _⟩ (fun r797 H locs hp hI hS => ?_)
        refine lv_ior hx hb dX7_stepFrom_89 ?_
        refine lv_topi (fun v798 e799 => ?_)
        obtain ⟨_, hA800⟩ := op_0 hI hq783 List.not_mem_nil
        refine th_iast hx hb hK hA800 0 rfl hS ⟨_, hq783⟩ (iv_in (X := v736.toInt) rfl (by omega) (by omega)) dX7_stepFrom_90 (fun H locs hA800 oq hS => ?_)
        have hI := th_I.put hI hq783 hA800 ok_0 oq
        refine lv_aload_n hx hb dX7_stepFrom_91 rfl (lv_at hl 3 rfl) ?_
        obtain ⟨a801, a803, a805, a807, a809, a811, w813, hO, hq802, hq804, hq806, hq808, hq810, hq812⟩ := op_9 hI hG0 List.not_mem_nil
        have hI := th_I.weak (a := h0) hI
        refine th_get hx hb hts inT7 hown hK hO rfl 2 (by decide) (hts _ (tb_c wd_191)) rfl rfl dX7_stepFrom_92 ?_
        refine lv_iload_n hx hb dX7_stepFrom_95 rfl (lv_at hl 2 rfl) ?_
        obtain ⟨_, hA814⟩ := op_0 hI hq806 (th_ne hG0 hq806 (show (9 : Nat) ≠ 0 by decide))
        refine th_iald hx hb hK hA814 0 rfl (iv_in (X := v736.toInt) rfl (by omega) (by omega)) dX7_stepFrom_96 (fun v815 _ => ?_)
        refine lv_bipush (v := 31) hx hb dX7_stepFrom_97 (by decide) ?_
        refine lv_iand hx hb dX7_stepFrom_99 ?_
        refine lv_topi (fun v816 e817 => ?_)
        have tv816 := iv_andr (m := 31) (M := 31) e817 (by decide) (by decide)
        have hI := th_I.close hI hG0 hO (ok_9 hq802 hq804 hq806 hq808 hq810 hq812)
        have hpost : True := trivial
        rw [hQ]
        exact W.iret (v := v816) hx hb hr (fun t ht hW => ⟨⟨v816, (), rfl, hpost, by rw [ht]; exact hI, hN.warm hW, va_K.moved hW.alike hK⟩, hS.F ht⟩) hS.2.2 dX7_stepFrom_100
    · skip
      try simp only [rg, not_and, Int.not_le] at hp
      have hp818 := hp
      refine lv_if_ne (tgt := 16) hx hb dX7_stepFrom_11 (by decide) (fun c => absurd c (by decide)) (fun _ => ?_)
      exact J_14 s.heap locs ls  (lv_sub hl [0, 1, 2] rfl)  hI hS
  · skip
    try simp only [rg, not_and, Int.not_le] at hp
    have hp819 := hp
    refine lv_if_eq (tgt := 14) hx hb dX7_stepFrom_4 (by decide) (fun _ => ?_) (fun c => absurd c (by decide))
    exact J_14 s.heap locs ls  (lv_sub hl [0, 1, 2] rfl)  hI hS
theorem dX7_flowAt_0g : (decode cX7_flowAt 0 = .ok (.aload_n 0, 1)) ∧ (decode cX7_flowAt 1 = .ok (.iload_n 1, 1)) ∧ (decode cX7_flowAt 2 = .ok (.iload_n 2, 1)) ∧ (decode cX7_flowAt 3 = .ok (.invokevirtual 39, 3)) ∧ (decode cX7_flowAt 6 = .ok (.pop, 1)) ∧ (decode cX7_flowAt 7 = .ok (.iload_n 1, 1)) ∧ (decode cX7_flowAt 8 = .ok (.invokestatic 43, 3)) ∧ (decode cX7_flowAt 11 = .ok (.ifCond .eq 31, 3)) ∧ (decode cX7_flowAt 14 = .ok (.iload_n 2, 1)) ∧ (decode cX7_flowAt 15 = .ok (.invokestatic 47, 3)) := by decide +kernel
theorem dX7_flowAt_0 : decode cX7_flowAt 0 = .ok (.aload_n 0, 1) := dX7_flowAt_0g.1
theorem dX7_flowAt_1 : decode cX7_flowAt 1 = .ok (.iload_n 1, 1) := dX7_flowAt_0g.2.1
theorem dX7_flowAt_2 : decode cX7_flowAt 2 = .ok (.iload_n 2, 1) := dX7_flowAt_0g.2.2.1
theorem dX7_flowAt_3 : decode cX7_flowAt 3 = .ok (.invokevirtual 39, 3) := dX7_flowAt_0g.2.2.2.1
theorem dX7_flowAt_6 : decode cX7_flowAt 6 = .ok (.pop, 1) := dX7_flowAt_0g.2.2.2.2.1
theorem dX7_flowAt_7 : decode cX7_flowAt 7 = .ok (.iload_n 1, 1) := dX7_flowAt_0g.2.2.2.2.2.1
theorem dX7_flowAt_8 : decode cX7_flowAt 8 = .ok (.invokestatic 43, 3) := dX7_flowAt_0g.2.2.2.2.2.2.1
theorem dX7_flowAt_11 : decode cX7_flowAt 11 = .ok (.ifCond .eq 31, 3) := dX7_flowAt_0g.2.2.2.2.2.2.2.1
theorem dX7_flowAt_14 : decode cX7_flowAt 14 = .ok (.iload_n 2, 1) := dX7_flowAt_0g.2.2.2.2.2.2.2.2.1
theorem dX7_flowAt_15 : decode cX7_flowAt 15 = .ok (.invokestatic 47, 3) := dX7_flowAt_0g.2.2.2.2.2.2.2.2.2
theorem dX7_flowAt_18g : (decode cX7_flowAt 18 = .ok (.ifCond .eq 24, 3)) ∧ (decode cX7_flowAt 21 = .ok (.aload_n 0, 1)) ∧ (decode cX7_flowAt 22 = .ok (.getfield 18, 3)) ∧ (decode cX7_flowAt 25 = .ok (.iload_n 2, 1)) ∧ (decode cX7_flowAt 26 = .ok (.bipush 24, 2)) ∧ (decode cX7_flowAt 28 = .ok (.imul, 1)) ∧ (decode cX7_flowAt 29 = .ok (.iload_n 1, 1)) ∧ (decode cX7_flowAt 30 = .ok (.iadd, 1)) ∧ (decode cX7_flowAt 31 = .ok (.iaload, 1)) ∧ (decode cX7_flowAt 32 = .ok (.iconst 5, 1)) := by decide +kernel
theorem dX7_flowAt_18 : decode cX7_flowAt 18 = .ok (.ifCond .eq 24, 3) := dX7_flowAt_18g.1
theorem dX7_flowAt_21 : decode cX7_flowAt 21 = .ok (.aload_n 0, 1) := dX7_flowAt_18g.2.1
theorem dX7_flowAt_22 : decode cX7_flowAt 22 = .ok (.getfield 18, 3) := dX7_flowAt_18g.2.2.1
theorem dX7_flowAt_25 : decode cX7_flowAt 25 = .ok (.iload_n 2, 1) := dX7_flowAt_18g.2.2.2.1
theorem dX7_flowAt_26 : decode cX7_flowAt 26 = .ok (.bipush 24, 2) := dX7_flowAt_18g.2.2.2.2.1
theorem dX7_flowAt_28 : decode cX7_flowAt 28 = .ok (.imul, 1) := dX7_flowAt_18g.2.2.2.2.2.1
theorem dX7_flowAt_29 : decode cX7_flowAt 29 = .ok (.iload_n 1, 1) := dX7_flowAt_18g.2.2.2.2.2.2.1
theorem dX7_flowAt_30 : decode cX7_flowAt 30 = .ok (.iadd, 1) := dX7_flowAt_18g.2.2.2.2.2.2.2.1
theorem dX7_flowAt_31 : decode cX7_flowAt 31 = .ok (.iaload, 1) := dX7_flowAt_18g.2.2.2.2.2.2.2.2.1
theorem dX7_flowAt_32 : decode cX7_flowAt 32 = .ok (.iconst 5, 1) := dX7_flowAt_18g.2.2.2.2.2.2.2.2.2
theorem dX7_flowAt_33g : (decode cX7_flowAt 33 = .ok (.ishr, 1)) ∧ (decode cX7_flowAt 34 = .ok (.bipush 6, 2)) ∧ (decode cX7_flowAt 36 = .ok (.isub, 1)) ∧ (decode cX7_flowAt 37 = .ok (.iconst 1, 1)) ∧ (decode cX7_flowAt 38 = .ok (.isub, 1)) ∧ (decode cX7_flowAt 39 = .ok (.goto 4, 3)) ∧ (decode cX7_flowAt 42 = .ok (.iconst 0, 1)) ∧ (decode cX7_flowAt 43 = .ok (.ireturn, 1)) := by decide +kernel
theorem dX7_flowAt_33 : decode cX7_flowAt 33 = .ok (.ishr, 1) := dX7_flowAt_33g.1
theorem dX7_flowAt_34 : decode cX7_flowAt 34 = .ok (.bipush 6, 2) := dX7_flowAt_33g.2.1
theorem dX7_flowAt_36 : decode cX7_flowAt 36 = .ok (.isub, 1) := dX7_flowAt_33g.2.2.1
theorem dX7_flowAt_37 : decode cX7_flowAt 37 = .ok (.iconst 1, 1) := dX7_flowAt_33g.2.2.2.1
theorem dX7_flowAt_38 : decode cX7_flowAt 38 = .ok (.isub, 1) := dX7_flowAt_33g.2.2.2.2.1
theorem dX7_flowAt_39 : decode cX7_flowAt 39 = .ok (.goto 4, 3) := dX7_flowAt_33g.2.2.2.2.2.1
theorem dX7_flowAt_42 : decode cX7_flowAt 42 = .ok (.iconst 0, 1) := dX7_flowAt_33g.2.2.2.2.2.2.1
theorem dX7_flowAt_43 : decode cX7_flowAt 43 = .ok (.ireturn, 1) := dX7_flowAt_33g.2.2.2.2.2.2.2
set_option maxHeartbeats 4000000 in
set_option maxRecDepth 100000 in
theorem c_X7_flowAt (l : Launch) (E : Nat → Nat) (D : va_G) (G : th_G) (h0 : Nat) (hG0 : G h0 = some (9, 0)) (x1 x2 : Int32) : Met l yX7_flowAt (tb (.code yX7_flowAt cX7_flowAt 3 (some .int))) (rm 5) (va_Pc [.ref h0, .int x1, .int x2] (th_P E D G)) (QI E D G (fun r => True)) 0 0 (th_A G) := by
  refine Met.ofW (cc := cX7_flowAt) (maxL := 3) (ret := (some .int)) (by decide) rfl ?_
  intro p e s m args below meth c s₁ B hml hv
  obtain ⟨hav, hI, hN, hK⟩ := hv
  have hx := B.exec
  have hb := B.bytes
  have hr := B.returns
  have hts := atoms_spec (ws := tb (.code yX7_flowAt cX7_flowAt 3 (some .int))) B.pre
  have hown : s.vm.findClass RX7 = some m.cls := findClass_of_methodNamed B.named
  have hlocks := B.notSynchronized
  have hS : va_S (th_A G) s.heap s.heap [] := va_S.rf
  have hl := lv_entry ([.ref h0, .int x1, .int x2]) (n := 3) (Nat.le_of_ble_eq_true rfl)
  rw [show entryFrame m args 3 = entryFrame m ([.ref h0, .int x1, .int x2] : List Value).toArray 3 from by rw [hav], lg_entry_eq]
  generalize (lg_sl ([.ref h0, .int x1, .int x2]) ++ List.replicate (3 - (lg_sl ([.ref h0, .int x1, .int x2])).length) Slot.unset).toArray = ls at hl ⊢
  have hl : lv_has ls 3 [(0, .ref h0), (1, .int x1), (2, .int x2)] := hl
  generalize hR : (headSpec (tb (.code yX7_flowAt cX7_flowAt 3 (some .int))) (rm 5)).room = R
  have hR := hR.symm
  generalize hQ : MQ below (QI E D G (fun r => True)) args s 0 0 (th_A G) = QF
  have hQ := hQ.symm
  refine lv_aload_n hx hb dX7_flowAt_0 rfl (lv_at hl 0 rfl) ?_
  refine lv_iload_n hx hb dX7_flowAt_1 rfl (lv_at hl 1 rfl) ?_
  refine lv_iload_n hx hb dX7_flowAt_2 rfl (lv_at hl 2 rfl) ?_
  refine th_cVi (As := [.int x1, .int x2]) (rest := []) (n := 2) (d := 4) ⟨hx, hb, hml, hown, hts⟩ (c_X7_stepFrom l E D G h0 hG0 x1 x2) wd_530 wd_531 wd_532 wd_6 wd_533 (by decide +kernel) ⟨by rw [hR]; exact Nat.le_of_ble_eq_true rfl, by rw [hR]; exact Nat.le_of_ble_eq_true rfl⟩ hI hN hK hS (rc_9 hI hG0 List.not_mem_nil) rfl rfl hl.1 rfl (Nat.le_of_ble_eq_true rfl) dX7_flowAt_3 ⟨Nat.zero_le _, Nat.zero_le _⟩ (fun r1 H locs hp hI hS => ?_)
  refine lv_pop hx hb dX7_flowAt_6 rfl ?_
  refine lv_iload_n hx hb dX7_flowAt_7 rfl (lv_at hl 1 rfl) ?_
  refine th_cSN (As := [.int x1]) (rest := []) (n := 1) (d := 0) ⟨hx, hb, hml, hown, hts⟩ (c_X11_isCell l H x1) wn_534 wd_402 wd_1 wd_403 (by decide +kernel) ⟨by rw [hR]; exact Nat.le_of_ble_eq_true rfl, by rw [hR]; exact Nat.le_of_ble_eq_true rfl⟩ hN hS rfl hl.1 rfl (Nat.le_of_ble_eq_true rfl) dX7_flowAt_8 ⟨Nat.zero_le _, Nat.zero_le _⟩ (fun r2 locs hp hS => ?_)
  rcases hp with ⟨rfl, hp⟩ | ⟨rfl, hp⟩
  · skip
    try simp only [rg, not_and, Int.not_le] at hp
    have hp3 := hp
    refine lv_if_eq (tgt := 42) hx hb dX7_flowAt_11 (by decide) (fun c => absurd c (by decide)) (fun _ => ?_)
    refine lv_iload_n hx hb dX7_flowAt_14 rfl (lv_at hl 2 rfl) ?_
    refine th_cSN (As := [.int x2]) (rest := []) (n := 1) (d := 0) ⟨hx, hb, hml, hown, hts⟩ (c_X11_isHour l H x2) wn_535 wd_467 wd_1 wd_468 (by decide +kernel) ⟨by rw [hR]; exact Nat.le_of_ble_eq_true rfl, by rw [hR]; exact Nat.le_of_ble_eq_true rfl⟩ hN hS rfl hl.1 rfl (Nat.le_of_ble_eq_true rfl) dX7_flowAt_15 ⟨Nat.zero_le _, Nat.zero_le _⟩ (fun r4 locs hp hS => ?_)
    rcases hp with ⟨rfl, hp⟩ | ⟨rfl, hp⟩
    · skip
      try simp only [rg, not_and, Int.not_le] at hp
      have hp5 := hp
      refine lv_if_eq (tgt := 42) hx hb dX7_flowAt_18 (by decide) (fun c => absurd c (by decide)) (fun _ => ?_)
      refine lv_aload_n hx hb dX7_flowAt_21 rfl (lv_at hl 0 rfl) ?_
      obtain ⟨a6, a8, a10, a12, a14, a16, w18, hO, hq7, hq9, hq11, hq13, hq15, hq17⟩ := op_9 hI hG0 List.not_mem_nil
      have hI := th_I.weak (a := h0) hI
      refine th_get hx hb hts inT7 hown hK hO rfl 2 (by decide) (hts _ (tb_c wd_191)) rfl rfl dX7_flowAt_22 ?_
      refine lv_iload_n hx hb dX7_flowAt_25 rfl (lv_at hl 2 rfl) ?_
      refine lv_bipush (v := 24) hx hb dX7_flowAt_26 (by decide) ?_
      refine lv_imul hx hb dX7_flowAt_28 ?_
      refine lv_topi (fun v19 e20 => ?_)
      have tv19 : v19.toInt = x2.toInt * (24) := iv_mul rfl (by decide) e20 (by omega) (by omega)
      refine lv_iload_n hx hb dX7_flowAt_29 rfl (lv_at hl 1 rfl) ?_
      refine lv_iadd hx hb dX7_flowAt_30 ?_
      refine lv_topi (fun v21 e22 => ?_)
      have tv21 : v21.toInt = v19.toInt + x1.toInt := iv_add rfl rfl e22 (by omega) (by omega)
      obtain ⟨_, hA23⟩ := op_0 hI hq11 (th_ne hG0 hq11 (show (9 : Nat) ≠ 0 by decide))
      refine th_iald hx hb hK hA23 0 rfl (iv_in (X := v21.toInt) rfl (by omega) (by omega)) dX7_flowAt_31 (fun v24 _ => ?_)
      refine lv_iconst (v := 5) hx hb dX7_flowAt_32 (by decide) ?_
      refine lv_ishr hx hb dX7_flowAt_33 ?_
      refine lv_topi (fun v25 e26 => ?_)
      refine lv_bipush (v := 6) hx hb dX7_flowAt_34 (by decide) ?_
      refine lv_isub hx hb dX7_flowAt_36 ?_
      refine lv_topi (fun v27 e28 => ?_)
      try have tv27 : v27.toInt = v25.toInt - (6) := iv_sub rfl (by decide) e28 (by omega) (by omega)
      refine lv_iconst (v := 1) hx hb dX7_flowAt_37 (by decide) ?_
      refine lv_isub hx hb dX7_flowAt_38 ?_
      refine lv_topi (fun v29 e30 => ?_)
      try have tv29 : v29.toInt = v27.toInt - (1) := iv_sub rfl (by decide) e30 (by omega) (by omega)
      refine lv_goto (tgt := 43) hx hb dX7_flowAt_39 (by decide) ?_
      have hI := th_I.close hI hG0 hO (ok_9 hq7 hq9 hq11 hq13 hq15 hq17)
      have hpost : True := trivial
      rw [hQ]
      exact W.iret (v := v29) hx hb hr (fun t ht hW => ⟨⟨v29, (), rfl, hpost, by rw [ht]; exact hI, hN.warm hW, va_K.moved hW.alike hK⟩, hS.F ht⟩) hS.2.2 dX7_flowAt_43
    · skip
      try simp only [rg, not_and, Int.not_le] at hp
      have hp31 := hp
      refine lv_if_eq (tgt := 42) hx hb dX7_flowAt_18 (by decide) (fun _ => ?_) (fun c => absurd c (by decide))
      refine lv_iconst (v := 0) hx hb dX7_flowAt_42 (by decide) ?_
      have hpost : True := trivial
      rw [hQ]
      exact W.iret (v := 0) hx hb hr (fun t ht hW => ⟨⟨0, (), rfl, hpost, by rw [ht]; exact hI, hN.warm hW, va_K.moved hW.alike hK⟩, hS.F ht⟩) hS.2.2 dX7_flowAt_43
  · skip
    try simp only [rg, not_and, Int.not_le] at hp
    have hp32 := hp
    refine lv_if_eq (tgt := 42) hx hb dX7_flowAt_11 (by decide) (fun _ => ?_) (fun c => absurd c (by decide))
    refine lv_iconst (v := 0) hx hb dX7_flowAt_42 (by decide) ?_
    have hpost : True := trivial
    rw [hQ]
    exact W.iret (v := 0) hx hb hr (fun t ht hW => ⟨⟨0, (), rfl, hpost, by rw [ht]; exact hI, hN.warm hW, va_K.moved hW.alike hK⟩, hS.F ht⟩) hS.2.2 dX7_flowAt_43
theorem dX7_stepBy_0g : (decode cX7_stepBy 0 = .ok (.aload_n 0, 1)) ∧ (decode cX7_stepBy 1 = .ok (.iload_n 1, 1)) ∧ (decode cX7_stepBy 2 = .ok (.iload_n 2, 1)) ∧ (decode cX7_stepBy 3 = .ok (.aload_n 0, 1)) ∧ (decode cX7_stepBy 4 = .ok (.iload_n 1, 1)) ∧ (decode cX7_stepBy 5 = .ok (.iload_n 2, 1)) ∧ (decode cX7_stepBy 6 = .ok (.iload_n 3, 1)) ∧ (decode cX7_stepBy 7 = .ok (.iload 4, 2)) ∧ (decode cX7_stepBy 9 = .ok (.invokevirtual 63, 3)) ∧ (decode cX7_stepBy 12 = .ok (.invokevirtual 67, 3)) := by decide +kernel
theorem dX7_stepBy_0 : decode cX7_stepBy 0 = .ok (.aload_n 0, 1) := dX7_stepBy_0g.1
theorem dX7_stepBy_1 : decode cX7_stepBy 1 = .ok (.iload_n 1, 1) := dX7_stepBy_0g.2.1
theorem dX7_stepBy_2 : decode cX7_stepBy 2 = .ok (.iload_n 2, 1) := dX7_stepBy_0g.2.2.1
theorem dX7_stepBy_3 : decode cX7_stepBy 3 = .ok (.aload_n 0, 1) := dX7_stepBy_0g.2.2.2.1
theorem dX7_stepBy_4 : decode cX7_stepBy 4 = .ok (.iload_n 1, 1) := dX7_stepBy_0g.2.2.2.2.1
theorem dX7_stepBy_5 : decode cX7_stepBy 5 = .ok (.iload_n 2, 1) := dX7_stepBy_0g.2.2.2.2.2.1
theorem dX7_stepBy_6 : decode cX7_stepBy 6 = .ok (.iload_n 3, 1) := dX7_stepBy_0g.2.2.2.2.2.2.1
theorem dX7_stepBy_7 : decode cX7_stepBy 7 = .ok (.iload 4, 2) := dX7_stepBy_0g.2.2.2.2.2.2.2.1
theorem dX7_stepBy_9 : decode cX7_stepBy 9 = .ok (.invokevirtual 63, 3) := dX7_stepBy_0g.2.2.2.2.2.2.2.2.1
theorem dX7_stepBy_12 : decode cX7_stepBy 12 = .ok (.invokevirtual 67, 3) := dX7_stepBy_0g.2.2.2.2.2.2.2.2.2
theorem dX7_stepBy_15 : decode cX7_stepBy 15 = .ok (.ireturn, 1) := by decide +kernel
set_option maxHeartbeats 4000000 in
set_option maxRecDepth 100000 in
theorem c_X7_stepBy (l : Launch) (E : Nat → Nat) (D : va_G) (G : th_G) (h0 : Nat) (hG0 : G h0 = some (9, 0)) (x1 x2 x3 x4 : Int32) : Met l yX7_stepBy (tb (.code yX7_stepBy cX7_stepBy 5 (some .int))) (rm 4) (va_Pc [.ref h0, .int x1, .int x2, .int x3, .int x4] (th_P E D G)) (QI E D G (fun r => True)) 0 0 (th_A G) := by
  refine Met.ofW (cc := cX7_stepBy) (maxL := 5) (ret := (some .int)) (by decide) rfl ?_
  intro p e s m args below meth c s₁ B hml hv
  obtain ⟨hav, hI, hN, hK⟩ := hv
  have hx := B.exec
  have hb := B.bytes
  have hr := B.returns
  have hts := atoms_spec (ws := tb (.code yX7_stepBy cX7_stepBy 5 (some .int))) B.pre
  have hown : s.vm.findClass RX7 = some m.cls := findClass_of_methodNamed B.named
  have hlocks := B.notSynchronized
  have hS : va_S (th_A G) s.heap s.heap [] := va_S.rf
  have hl := lv_entry ([.ref h0, .int x1, .int x2, .int x3, .int x4]) (n := 5) (Nat.le_of_ble_eq_true rfl)
  rw [show entryFrame m args 5 = entryFrame m ([.ref h0, .int x1, .int x2, .int x3, .int x4] : List Value).toArray 5 from by rw [hav], lg_entry_eq]
  generalize (lg_sl ([.ref h0, .int x1, .int x2, .int x3, .int x4]) ++ List.replicate (5 - (lg_sl ([.ref h0, .int x1, .int x2, .int x3, .int x4])).length) Slot.unset).toArray = ls at hl ⊢
  have hl : lv_has ls 5 [(0, .ref h0), (1, .int x1), (2, .int x2), (3, .int x3), (4, .int x4)] := hl
  generalize hR : (headSpec (tb (.code yX7_stepBy cX7_stepBy 5 (some .int))) (rm 4)).room = R
  have hR := hR.symm
  generalize hQ : MQ below (QI E D G (fun r => True)) args s 0 0 (th_A G) = QF
  have hQ := hQ.symm
  refine lv_aload_n hx hb dX7_stepBy_0 rfl (lv_at hl 0 rfl) ?_
  refine lv_iload_n hx hb dX7_stepBy_1 rfl (lv_at hl 1 rfl) ?_
  refine lv_iload_n hx hb dX7_stepBy_2 rfl (lv_at hl 2 rfl) ?_
  refine lv_aload_n hx hb dX7_stepBy_3 rfl (lv_at hl 0 rfl) ?_
  refine lv_iload_n hx hb dX7_stepBy_4 rfl (lv_at hl 1 rfl) ?_
  refine lv_iload_n hx hb dX7_stepBy_5 rfl (lv_at hl 2 rfl) ?_
  refine lv_iload_n hx hb dX7_stepBy_6 rfl (lv_at hl 3 rfl) ?_
  refine lv_iload hx hb dX7_stepBy_7 (lv_at hl 4 rfl) ?_
  refine th_cVi (As := [.int x1, .int x2, .int x3, .int x4]) (rest := [.int x2, .int x1, .ref h0]) (n := 4) (d := 3) ⟨hx, hb, hml, hown, hts⟩ (c_X7_flowBy l E D G h0 hG0 x1 x2 x3 x4) wd_558 wd_560 wp_5 wd_6 wd_561 (by decide +kernel) ⟨by rw [hR]; exact Nat.le_of_ble_eq_true rfl, by rw [hR]; exact Nat.le_of_ble_eq_true rfl⟩ hI hN hK hS (rc_9 hI hG0 List.not_mem_nil) rfl rfl hl.1 rfl (Nat.le_of_ble_eq_true rfl) dX7_stepBy_9 ⟨Nat.zero_le _, Nat.zero_le _⟩ (fun r1 H locs hp hI hS => ?_)
  refine th_cVi (As := [.int x1, .int x2, .int r1]) (rest := []) (n := 3) (d := 1) ⟨hx, hb, hml, hown, hts⟩ (c_X7_walk l E D G h0 hG0 x1 x2 r1) wd_586 wd_588 wp_7 wd_6 wd_589 (by decide +kernel) ⟨by rw [hR]; exact Nat.le_of_ble_eq_true rfl, by rw [hR]; exact Nat.le_of_ble_eq_true rfl⟩ hI hN hK hS (rc_9 hI hG0 List.not_mem_nil) rfl rfl hl.1 rfl (Nat.le_of_ble_eq_true rfl) dX7_stepBy_12 ⟨Nat.zero_le _, Nat.zero_le _⟩ (fun r2 H locs hp hI hS => ?_)
  have hpost : True := trivial
  rw [hQ]
  exact W.iret (v := r2) hx hb hr (fun t ht hW => ⟨⟨r2, (), rfl, hpost, by rw [ht]; exact hI, hN.warm hW, va_K.moved hW.alike hK⟩, hS.F ht⟩) hS.2.2 dX7_stepBy_15
theorem dX7_stepIf_0g : (decode cX7_stepIf 0 = .ok (.iload_n 3, 1)) ∧ (decode cX7_stepIf 1 = .ok (.aload_n 0, 1)) ∧ (decode cX7_stepIf 2 = .ok (.getfield 35, 3)) ∧ (decode cX7_stepIf 5 = .ok (.iload_n 2, 1)) ∧ (decode cX7_stepIf 6 = .ok (.invokevirtual 53, 3)) ∧ (decode cX7_stepIf 9 = .ok (.if_icmp .eq 10, 3)) ∧ (decode cX7_stepIf 12 = .ok (.iload_n 1, 1)) ∧ (decode cX7_stepIf 13 = .ok (.invokestatic 43, 3)) ∧ (decode cX7_stepIf 16 = .ok (.ifCond .ne 10, 3)) ∧ (decode cX7_stepIf 19 = .ok (.aload_n 0, 1)) := by decide +kernel
theorem dX7_stepIf_0 : decode cX7_stepIf 0 = .ok (.iload_n 3, 1) := dX7_stepIf_0g.1
theorem dX7_stepIf_1 : decode cX7_stepIf 1 = .ok (.aload_n 0, 1) := dX7_stepIf_0g.2.1
theorem dX7_stepIf_2 : decode cX7_stepIf 2 = .ok (.getfield 35, 3) := dX7_stepIf_0g.2.2.1
theorem dX7_stepIf_5 : decode cX7_stepIf 5 = .ok (.iload_n 2, 1) := dX7_stepIf_0g.2.2.2.1
theorem dX7_stepIf_6 : decode cX7_stepIf 6 = .ok (.invokevirtual 53, 3) := dX7_stepIf_0g.2.2.2.2.1
theorem dX7_stepIf_9 : decode cX7_stepIf 9 = .ok (.if_icmp .eq 10, 3) := dX7_stepIf_0g.2.2.2.2.2.1
theorem dX7_stepIf_12 : decode cX7_stepIf 12 = .ok (.iload_n 1, 1) := dX7_stepIf_0g.2.2.2.2.2.2.1
theorem dX7_stepIf_13 : decode cX7_stepIf 13 = .ok (.invokestatic 43, 3) := dX7_stepIf_0g.2.2.2.2.2.2.2.1
theorem dX7_stepIf_16 : decode cX7_stepIf 16 = .ok (.ifCond .ne 10, 3) := dX7_stepIf_0g.2.2.2.2.2.2.2.2.1
theorem dX7_stepIf_19 : decode cX7_stepIf 19 = .ok (.aload_n 0, 1) := dX7_stepIf_0g.2.2.2.2.2.2.2.2.2
theorem dX7_stepIf_20g : (decode cX7_stepIf 20 = .ok (.iload_n 1, 1)) ∧ (decode cX7_stepIf 21 = .ok (.iload_n 2, 1)) ∧ (decode cX7_stepIf 22 = .ok (.invokevirtual 39, 3)) ∧ (decode cX7_stepIf 25 = .ok (.ireturn, 1)) ∧ (decode cX7_stepIf 26 = .ok (.aload_n 0, 1)) ∧ (decode cX7_stepIf 27 = .ok (.iload_n 1, 1)) ∧ (decode cX7_stepIf 28 = .ok (.iload_n 2, 1)) ∧ (decode cX7_stepIf 29 = .ok (.iload_n 3, 1)) ∧ (decode cX7_stepIf 30 = .ok (.aload_n 0, 1)) ∧ (decode cX7_stepIf 31 = .ok (.getfield 35, 3)) := by decide +kernel
theorem dX7_stepIf_20 : decode cX7_stepIf 20 = .ok (.iload_n 1, 1) := dX7_stepIf_20g.1
theorem dX7_stepIf_21 : decode cX7_stepIf 21 = .ok (.iload_n 2, 1) := dX7_stepIf_20g.2.1
theorem dX7_stepIf_22 : decode cX7_stepIf 22 = .ok (.invokevirtual 39, 3) := dX7_stepIf_20g.2.2.1
theorem dX7_stepIf_25 : decode cX7_stepIf 25 = .ok (.ireturn, 1) := dX7_stepIf_20g.2.2.2.1
theorem dX7_stepIf_26 : decode cX7_stepIf 26 = .ok (.aload_n 0, 1) := dX7_stepIf_20g.2.2.2.2.1
theorem dX7_stepIf_27 : decode cX7_stepIf 27 = .ok (.iload_n 1, 1) := dX7_stepIf_20g.2.2.2.2.2.1
theorem dX7_stepIf_28 : decode cX7_stepIf 28 = .ok (.iload_n 2, 1) := dX7_stepIf_20g.2.2.2.2.2.2.1
theorem dX7_stepIf_29 : decode cX7_stepIf 29 = .ok (.iload_n 3, 1) := dX7_stepIf_20g.2.2.2.2.2.2.2.1
theorem dX7_stepIf_30 : decode cX7_stepIf 30 = .ok (.aload_n 0, 1) := dX7_stepIf_20g.2.2.2.2.2.2.2.2.1
theorem dX7_stepIf_31 : decode cX7_stepIf 31 = .ok (.getfield 35, 3) := dX7_stepIf_20g.2.2.2.2.2.2.2.2.2
theorem dX7_stepIf_34g : (decode cX7_stepIf 34 = .ok (.iload_n 1, 1)) ∧ (decode cX7_stepIf 35 = .ok (.iload_n 2, 1)) ∧ (decode cX7_stepIf 36 = .ok (.iload_n 3, 1)) ∧ (decode cX7_stepIf 37 = .ok (.invokevirtual 59, 3)) ∧ (decode cX7_stepIf 40 = .ok (.invokevirtual 70, 3)) ∧ (decode cX7_stepIf 43 = .ok (.ireturn, 1)) := by decide +kernel
theorem dX7_stepIf_34 : decode cX7_stepIf 34 = .ok (.iload_n 1, 1) := dX7_stepIf_34g.1
theorem dX7_stepIf_35 : decode cX7_stepIf 35 = .ok (.iload_n 2, 1) := dX7_stepIf_34g.2.1
theorem dX7_stepIf_36 : decode cX7_stepIf 36 = .ok (.iload_n 3, 1) := dX7_stepIf_34g.2.2.1
theorem dX7_stepIf_37 : decode cX7_stepIf 37 = .ok (.invokevirtual 59, 3) := dX7_stepIf_34g.2.2.2.1
theorem dX7_stepIf_40 : decode cX7_stepIf 40 = .ok (.invokevirtual 70, 3) := dX7_stepIf_34g.2.2.2.2.1
theorem dX7_stepIf_43 : decode cX7_stepIf 43 = .ok (.ireturn, 1) := dX7_stepIf_34g.2.2.2.2.2
set_option maxHeartbeats 4000000 in
set_option maxRecDepth 100000 in
theorem c_X7_stepIf (l : Launch) (E : Nat → Nat) (D : va_G) (G : th_G) (h0 : Nat) (hG0 : G h0 = some (9, 0)) (x1 x2 x3 : Int32) : Met l yX7_stepIf (tb (.code yX7_stepIf cX7_stepIf 4 (some .int))) (rm 5) (va_Pc [.ref h0, .int x1, .int x2, .int x3] (th_P E D G)) (QI E D G (fun r => True)) 0 0 (th_A G) := by
  refine Met.ofW (cc := cX7_stepIf) (maxL := 4) (ret := (some .int)) (by decide) rfl ?_
  intro p e s m args below meth c s₁ B hml hv
  obtain ⟨hav, hI, hN, hK⟩ := hv
  have hx := B.exec
  have hb := B.bytes
  have hr := B.returns
  have hts := atoms_spec (ws := tb (.code yX7_stepIf cX7_stepIf 4 (some .int))) B.pre
  have hown : s.vm.findClass RX7 = some m.cls := findClass_of_methodNamed B.named
  have hlocks := B.notSynchronized
  have hS : va_S (th_A G) s.heap s.heap [] := va_S.rf
  have hl := lv_entry ([.ref h0, .int x1, .int x2, .int x3]) (n := 4) (Nat.le_of_ble_eq_true rfl)
  rw [show entryFrame m args 4 = entryFrame m ([.ref h0, .int x1, .int x2, .int x3] : List Value).toArray 4 from by rw [hav], lg_entry_eq]
  generalize (lg_sl ([.ref h0, .int x1, .int x2, .int x3]) ++ List.replicate (4 - (lg_sl ([.ref h0, .int x1, .int x2, .int x3])).length) Slot.unset).toArray = ls at hl ⊢
  have hl : lv_has ls 4 [(0, .ref h0), (1, .int x1), (2, .int x2), (3, .int x3)] := hl
  generalize hR : (headSpec (tb (.code yX7_stepIf cX7_stepIf 4 (some .int))) (rm 5)).room = R
  have hR := hR.symm
  generalize hQ : MQ below (QI E D G (fun r => True)) args s 0 0 (th_A G) = QF
  have hQ := hQ.symm
  have J_19 : ∀ (H : Heap) (locs : List Loc) (ls : Array Slot) , lv_has ls 4 [(0, .ref h0), (1, .int x1), (2, .int x2), (3, .int x3)] → th_I (okC E) D G [] H → va_S (th_A G) s.heap H locs → W p l e R s m args below meth c H locs 0 0 QF (F0 m 19 ls []) := by
    intro H locs ls  hl  hI hS
    refine lv_aload_n hx hb dX7_stepIf_19 rfl (lv_at hl 0 rfl) ?_
    refine lv_iload_n hx hb dX7_stepIf_20 rfl (lv_at hl 1 rfl) ?_
    refine lv_iload_n hx hb dX7_stepIf_21 rfl (lv_at hl 2 rfl) ?_
    refine th_cVi (As := [.int x1, .int x2]) (rest := []) (n := 2) (d := 4) ⟨hx, hb, hml, hown, hts⟩ (c_X7_stepFrom l E D G h0 hG0 x1 x2) wd_530 wd_531 wd_532 wd_6 wd_533 (by decide +kernel) ⟨by rw [hR]; exact Nat.le_of_ble_eq_true rfl, by rw [hR]; exact Nat.le_of_ble_eq_true rfl⟩ hI hN hK hS (rc_9 hI hG0 List.not_mem_nil) rfl rfl hl.1 rfl (Nat.le_of_ble_eq_true rfl) dX7_stepIf_22 ⟨Nat.zero_le _, Nat.zero_le _⟩ (fun r320 H locs hp hI hS => ?_)
    have hpost : True := trivial
    rw [hQ]
    exact W.iret (v := r320) hx hb hr (fun t ht hW => ⟨⟨r320, (), rfl, hpost, by rw [ht]; exact hI, hN.warm hW, va_K.moved hW.alike hK⟩, hS.F ht⟩) hS.2.2 dX7_stepIf_25
  refine lv_iload_n hx hb dX7_stepIf_0 rfl (lv_at hl 3 rfl) ?_
  refine lv_aload_n hx hb dX7_stepIf_1 rfl (lv_at hl 0 rfl) ?_
  obtain ⟨a321, a323, a325, a327, a329, a331, w333, hO, hq322, hq324, hq326, hq328, hq330, hq332⟩ := op_9 hI hG0 List.not_mem_nil
  have hI := th_I.weak (a := h0) hI
  refine th_get hx hb hts inT7 hown hK hO rfl 0 (by decide) (hts _ (tb_c wd_189)) rfl rfl dX7_stepIf_2 ?_
  refine lv_iload_n hx hb dX7_stepIf_5 rfl (lv_at hl 2 rfl) ?_
  have hI := th_I.close hI hG0 hO (ok_9 hq322 hq324 hq326 hq328 hq330 hq332)
  refine th_cVi (As := [.int x2]) (rest := [.int x3]) (n := 1) (d := 1) ⟨hx, hb, hml, hown, hts⟩ (c_X6_strikeIn l E D G a321 hq322 x2) wd_545 wd_546 wd_547 wd_2 wd_548 (by decide +kernel) ⟨by rw [hR]; exact Nat.le_of_ble_eq_true rfl, by rw [hR]; exact Nat.le_of_ble_eq_true rfl⟩ hI hN hK hS (rc_6 hI hq322 List.not_mem_nil) rfl rfl hl.1 rfl (Nat.le_of_ble_eq_true rfl) dX7_stepIf_6 ⟨Nat.zero_le _, Nat.zero_le _⟩ (fun r334 H locs hp hI hS => ?_)
  have k335 := iv_lo x3
  have k336 := iv_hi x3
  have k337 := iv_lo r334
  have k338 := iv_hi r334
  refine lv_icmp_eq (tgt := 19) hx hb dX7_stepIf_9 (by decide) (fun c339 => ?_) (fun c339 => ?_)
  · skip
    have k340 := iv_eq (X := x3.toInt) (Y := r334.toInt) rfl rfl c339
    exact J_19 H locs ls  (lv_sub hl [0, 1, 2, 3] rfl)  hI hS
  · skip
    have k341 := iv_ne (X := x3.toInt) (Y := r334.toInt) rfl rfl c339
    refine lv_iload_n hx hb dX7_stepIf_12 rfl (lv_at hl 1 rfl) ?_
    refine th_cSN (As := [.int x1]) (rest := []) (n := 1) (d := 0) ⟨hx, hb, hml, hown, hts⟩ (c_X11_isCell l H x1) wn_534 wd_402 wd_1 wd_403 (by decide +kernel) ⟨by rw [hR]; exact Nat.le_of_ble_eq_true rfl, by rw [hR]; exact Nat.le_of_ble_eq_true rfl⟩ hN hS rfl hl.1 rfl (Nat.le_of_ble_eq_true rfl) dX7_stepIf_13 ⟨Nat.zero_le _, Nat.zero_le _⟩ (fun r342 locs hp hS => ?_)
    rcases hp with ⟨rfl, hp⟩ | ⟨rfl, hp⟩
    · skip
      try simp only [rg, not_and, Int.not_le] at hp
      have hp343 := hp
      refine lv_if_ne (tgt := 26) hx hb dX7_stepIf_16 (by decide) (fun _ => ?_) (fun c => absurd c (by decide))
      refine lv_aload_n hx hb dX7_stepIf_26 rfl (lv_at hl 0 rfl) ?_
      refine lv_iload_n hx hb dX7_stepIf_27 rfl (lv_at hl 1 rfl) ?_
      refine lv_iload_n hx hb dX7_stepIf_28 rfl (lv_at hl 2 rfl) ?_
      refine lv_iload_n hx hb dX7_stepIf_29 rfl (lv_at hl 3 rfl) ?_
      refine lv_aload_n hx hb dX7_stepIf_30 rfl (lv_at hl 0 rfl) ?_
      obtain ⟨a344, a346, a348, a350, a352, a354, w356, hO, hq345, hq347, hq349, hq351, hq353, hq355⟩ := op_9 hI hG0 List.not_mem_nil
      have hI := th_I.weak (a := h0) hI
      refine th_get hx hb hts inT7 hown hK hO rfl 0 (by decide) (hts _ (tb_c wd_189)) rfl rfl dX7_stepIf_31 ?_
      refine lv_iload_n hx hb dX7_stepIf_34 rfl (lv_at hl 1 rfl) ?_
      refine lv_iload_n hx hb dX7_stepIf_35 rfl (lv_at hl 2 rfl) ?_
      refine lv_iload_n hx hb dX7_stepIf_36 rfl (lv_at hl 3 rfl) ?_
      have hI := th_I.close hI hG0 hO (ok_9 hq345 hq347 hq349 hq351 hq353 hq355)
      refine th_cVi (As := [.int x1, .int x2, .int x3]) (rest := [.int x3, .int x2, .int x1, .ref h0]) (n := 3) (d := 1) ⟨hx, hb, hml, hown, hts⟩ (c_X6_pumpedAt l E D G a344 hq345 x1 x2 x3) wd_550 wd_551 wd_552 wd_2 wd_553 (by decide +kernel) ⟨by rw [hR]; exact Nat.le_of_ble_eq_true rfl, by rw [hR]; exact Nat.le_of_ble_eq_true rfl⟩ hI hN hK hS (rc_6 hI hq345 List.not_mem_nil) rfl rfl hl.1 rfl (Nat.le_of_ble_eq_true rfl) dX7_stepIf_37 ⟨Nat.zero_le _, Nat.zero_le _⟩ (fun r357 H locs hp hI hS => ?_)
      refine th_cVi (As := [.int x1, .int x2, .int x3, .int r357]) (rest := []) (n := 4) (d := 4) ⟨hx, hb, hml, hown, hts⟩ (c_X7_stepBy l E D G h0 hG0 x1 x2 x3 r357) wd_1118 wd_1119 wd_1120 wd_6 wd_1121 (by decide +kernel) ⟨by rw [hR]; exact Nat.le_of_ble_eq_true rfl, by rw [hR]; exact Nat.le_of_ble_eq_true rfl⟩ hI hN hK hS (rc_9 hI hG0 List.not_mem_nil) rfl rfl hl.1 rfl (Nat.le_of_ble_eq_true rfl) dX7_stepIf_40 ⟨Nat.zero_le _, Nat.zero_le _⟩ (fun r358 H locs hp hI hS => ?_)
      have hpost : True := trivial
      rw [hQ]
      exact W.iret (v := r358) hx hb hr (fun t ht hW => ⟨⟨r358, (), rfl, hpost, by rw [ht]; exact hI, hN.warm hW, va_K.moved hW.alike hK⟩, hS.F ht⟩) hS.2.2 dX7_stepIf_43
    · skip
      try simp only [rg, not_and, Int.not_le] at hp
      have hp359 := hp
      refine lv_if_ne (tgt := 26) hx hb dX7_stepIf_16 (by decide) (fun c => absurd c (by decide)) (fun _ => ?_)
      exact J_19 H locs ls  (lv_sub hl [0, 1, 2, 3] rfl)  hI hS
theorem dX7_askAbout_0g : (decode cX7_askAbout 0 = .ok (.aload_n 0, 1)) ∧ (decode cX7_askAbout 1 = .ok (.invokevirtual 50, 3)) ∧ (decode cX7_askAbout 4 = .ok (.iload_n 1, 1)) ∧ (decode cX7_askAbout 5 = .ok (.invokestatic 43, 3)) ∧ (decode cX7_askAbout 8 = .ok (.ifCond .eq 42, 3)) ∧ (decode cX7_askAbout 11 = .ok (.aload_n 0, 1)) ∧ (decode cX7_askAbout 12 = .ok (.getfield 35, 3)) ∧ (decode cX7_askAbout 15 = .ok (.iload_n 2, 1)) ∧ (decode cX7_askAbout 16 = .ok (.invokevirtual 53, 3)) ∧ (decode cX7_askAbout 19 = .ok (.istore_n 3, 1)) := by decide +kernel
theorem dX7_askAbout_0 : decode cX7_askAbout 0 = .ok (.aload_n 0, 1) := dX7_askAbout_0g.1
theorem dX7_askAbout_1 : decode cX7_askAbout 1 = .ok (.invokevirtual 50, 3) := dX7_askAbout_0g.2.1
theorem dX7_askAbout_4 : decode cX7_askAbout 4 = .ok (.iload_n 1, 1) := dX7_askAbout_0g.2.2.1
theorem dX7_askAbout_5 : decode cX7_askAbout 5 = .ok (.invokestatic 43, 3) := dX7_askAbout_0g.2.2.2.1
theorem dX7_askAbout_8 : decode cX7_askAbout 8 = .ok (.ifCond .eq 42, 3) := dX7_askAbout_0g.2.2.2.2.1
theorem dX7_askAbout_11 : decode cX7_askAbout 11 = .ok (.aload_n 0, 1) := dX7_askAbout_0g.2.2.2.2.2.1
theorem dX7_askAbout_12 : decode cX7_askAbout 12 = .ok (.getfield 35, 3) := dX7_askAbout_0g.2.2.2.2.2.2.1
theorem dX7_askAbout_15 : decode cX7_askAbout 15 = .ok (.iload_n 2, 1) := dX7_askAbout_0g.2.2.2.2.2.2.2.1
theorem dX7_askAbout_16 : decode cX7_askAbout 16 = .ok (.invokevirtual 53, 3) := dX7_askAbout_0g.2.2.2.2.2.2.2.2.1
theorem dX7_askAbout_19 : decode cX7_askAbout 19 = .ok (.istore_n 3, 1) := dX7_askAbout_0g.2.2.2.2.2.2.2.2.2
theorem dX7_askAbout_20g : (decode cX7_askAbout 20 = .ok (.aload_n 0, 1)) ∧ (decode cX7_askAbout 21 = .ok (.getfield 12, 3)) ∧ (decode cX7_askAbout 24 = .ok (.iload_n 1, 1)) ∧ (decode cX7_askAbout 25 = .ok (.iload_n 2, 1)) ∧ (decode cX7_askAbout 26 = .ok (.iload_n 3, 1)) ∧ (decode cX7_askAbout 27 = .ok (.aload_n 0, 1)) ∧ (decode cX7_askAbout 28 = .ok (.getfield 35, 3)) ∧ (decode cX7_askAbout 31 = .ok (.iload_n 1, 1)) ∧ (decode cX7_askAbout 32 = .ok (.iload_n 2, 1)) ∧ (decode cX7_askAbout 33 = .ok (.iload_n 3, 1)) := by decide +kernel
theorem dX7_askAbout_20 : decode cX7_askAbout 20 = .ok (.aload_n 0, 1) := dX7_askAbout_20g.1
theorem dX7_askAbout_21 : decode cX7_askAbout 21 = .ok (.getfield 12, 3) := dX7_askAbout_20g.2.1
theorem dX7_askAbout_24 : decode cX7_askAbout 24 = .ok (.iload_n 1, 1) := dX7_askAbout_20g.2.2.1
theorem dX7_askAbout_25 : decode cX7_askAbout 25 = .ok (.iload_n 2, 1) := dX7_askAbout_20g.2.2.2.1
theorem dX7_askAbout_26 : decode cX7_askAbout 26 = .ok (.iload_n 3, 1) := dX7_askAbout_20g.2.2.2.2.1
theorem dX7_askAbout_27 : decode cX7_askAbout 27 = .ok (.aload_n 0, 1) := dX7_askAbout_20g.2.2.2.2.2.1
theorem dX7_askAbout_28 : decode cX7_askAbout 28 = .ok (.getfield 35, 3) := dX7_askAbout_20g.2.2.2.2.2.2.1
theorem dX7_askAbout_31 : decode cX7_askAbout 31 = .ok (.iload_n 1, 1) := dX7_askAbout_20g.2.2.2.2.2.2.2.1
theorem dX7_askAbout_32 : decode cX7_askAbout 32 = .ok (.iload_n 2, 1) := dX7_askAbout_20g.2.2.2.2.2.2.2.2.1
theorem dX7_askAbout_33 : decode cX7_askAbout 33 = .ok (.iload_n 3, 1) := dX7_askAbout_20g.2.2.2.2.2.2.2.2.2
theorem dX7_askAbout_34g : (decode cX7_askAbout 34 = .ok (.invokevirtual 59, 3)) ∧ (decode cX7_askAbout 37 = .ok (.aload_n 0, 1)) ∧ (decode cX7_askAbout 38 = .ok (.getfield 28, 3)) ∧ (decode cX7_askAbout 41 = .ok (.iload_n 1, 1)) ∧ (decode cX7_askAbout 42 = .ok (.iaload, 1)) ∧ (decode cX7_askAbout 43 = .ok (.aload_n 0, 1)) ∧ (decode cX7_askAbout 44 = .ok (.getfield 35, 3)) ∧ (decode cX7_askAbout 47 = .ok (.invokevirtual 112, 3)) ∧ (decode cX7_askAbout 50 = .ok (.return_, 1)) := by decide +kernel
theorem dX7_askAbout_34 : decode cX7_askAbout 34 = .ok (.invokevirtual 59, 3) := dX7_askAbout_34g.1
theorem dX7_askAbout_37 : decode cX7_askAbout 37 = .ok (.aload_n 0, 1) := dX7_askAbout_34g.2.1
theorem dX7_askAbout_38 : decode cX7_askAbout 38 = .ok (.getfield 28, 3) := dX7_askAbout_34g.2.2.1
theorem dX7_askAbout_41 : decode cX7_askAbout 41 = .ok (.iload_n 1, 1) := dX7_askAbout_34g.2.2.2.1
theorem dX7_askAbout_42 : decode cX7_askAbout 42 = .ok (.iaload, 1) := dX7_askAbout_34g.2.2.2.2.1
theorem dX7_askAbout_43 : decode cX7_askAbout 43 = .ok (.aload_n 0, 1) := dX7_askAbout_34g.2.2.2.2.2.1
theorem dX7_askAbout_44 : decode cX7_askAbout 44 = .ok (.getfield 35, 3) := dX7_askAbout_34g.2.2.2.2.2.2.1
theorem dX7_askAbout_47 : decode cX7_askAbout 47 = .ok (.invokevirtual 112, 3) := dX7_askAbout_34g.2.2.2.2.2.2.2.1
theorem dX7_askAbout_50 : decode cX7_askAbout 50 = .ok (.return_, 1) := dX7_askAbout_34g.2.2.2.2.2.2.2.2
set_option maxHeartbeats 4000000 in
set_option maxRecDepth 100000 in
theorem c_X7_askAbout (l : Launch) (E : Nat → Nat) (D : va_G) (G : th_G) (h0 : Nat) (hG0 : G h0 = some (9, 0)) (x1 x2 : Int32) : Met l yX7_askAbout (tb (.code yX7_askAbout cX7_askAbout 4 none)) (rm 3) (va_Pc [.ref h0, .int x1, .int x2] (th_P E D G)) (QV E D G) 0 0 (th_A G) := by
  refine Met.ofW (cc := cX7_askAbout) (maxL := 4) (ret := none) (by decide) rfl ?_
  intro p e s m args below meth c s₁ B hml hv
  obtain ⟨hav, hI, hN, hK⟩ := hv
  have hx := B.exec
  have hb := B.bytes
  have hr := B.returns
  have hts := atoms_spec (ws := tb (.code yX7_askAbout cX7_askAbout 4 none)) B.pre
  have hown : s.vm.findClass RX7 = some m.cls := findClass_of_methodNamed B.named
  have hlocks := B.notSynchronized
  have hS : va_S (th_A G) s.heap s.heap [] := va_S.rf
  have hl := lv_entry ([.ref h0, .int x1, .int x2]) (n := 4) (Nat.le_of_ble_eq_true rfl)
  rw [show entryFrame m args 4 = entryFrame m ([.ref h0, .int x1, .int x2] : List Value).toArray 4 from by rw [hav], lg_entry_eq]
  generalize (lg_sl ([.ref h0, .int x1, .int x2]) ++ List.replicate (4 - (lg_sl ([.ref h0, .int x1, .int x2])).length) Slot.unset).toArray = ls at hl ⊢
  have hl : lv_has ls 4 [(0, .ref h0), (1, .int x1), (2, .int x2)] := hl
  generalize hR : (headSpec (tb (.code yX7_askAbout cX7_askAbout 4 none)) (rm 3)).room = R
  have hR := hR.symm
  generalize hQ : MQ below (QV E D G) args s 0 0 (th_A G) = QF
  have hQ := hQ.symm
  refine lv_aload_n hx hb dX7_askAbout_0 rfl (lv_at hl 0 rfl) ?_
  refine th_cVv (As := []) (rest := []) (n := 0) (d := 2) ⟨hx, hb, hml, hown, hts⟩ (c_X7_refresh l E D G h0 hG0 ) wd_536 wd_538 wp_4 wd_6 wd_539 (by decide +kernel) ⟨by rw [hR]; exact Nat.le_of_ble_eq_true rfl, by rw [hR]; exact Nat.le_of_ble_eq_true rfl⟩ hI hN hK hS (rc_9 hI hG0 List.not_mem_nil) rfl rfl hl.1 rfl (Nat.le_of_ble_eq_true rfl) dX7_askAbout_1 ⟨Nat.zero_le _, Nat.zero_le _⟩ (fun H locs hI hS => ?_)
  refine lv_iload_n hx hb dX7_askAbout_4 rfl (lv_at hl 1 rfl) ?_
  refine th_cSN (As := [.int x1]) (rest := []) (n := 1) (d := 0) ⟨hx, hb, hml, hown, hts⟩ (c_X11_isCell l H x1) wn_534 wd_402 wd_1 wd_403 (by decide +kernel) ⟨by rw [hR]; exact Nat.le_of_ble_eq_true rfl, by rw [hR]; exact Nat.le_of_ble_eq_true rfl⟩ hN hS rfl hl.1 rfl (Nat.le_of_ble_eq_true rfl) dX7_askAbout_5 ⟨Nat.zero_le _, Nat.zero_le _⟩ (fun r2 locs hp hS => ?_)
  rcases hp with ⟨rfl, hp⟩ | ⟨rfl, hp⟩
  · skip
    try simp only [rg, not_and, Int.not_le] at hp
    have hp3 := hp
    refine lv_if_eq (tgt := 50) hx hb dX7_askAbout_8 (by decide) (fun c => absurd c (by decide)) (fun _ => ?_)
    refine lv_aload_n hx hb dX7_askAbout_11 rfl (lv_at hl 0 rfl) ?_
    obtain ⟨a4, a6, a8, a10, a12, a14, w16, hO, hq5, hq7, hq9, hq11, hq13, hq15⟩ := op_9 hI hG0 List.not_mem_nil
    have hI := th_I.weak (a := h0) hI
    refine th_get hx hb hts inT7 hown hK hO rfl 0 (by decide) (hts _ (tb_c wd_189)) rfl rfl dX7_askAbout_12 ?_
    refine lv_iload_n hx hb dX7_askAbout_15 rfl (lv_at hl 2 rfl) ?_
    have hI := th_I.close hI hG0 hO (ok_9 hq5 hq7 hq9 hq11 hq13 hq15)
    refine th_cVi (As := [.int x2]) (rest := []) (n := 1) (d := 1) ⟨hx, hb, hml, hown, hts⟩ (c_X6_strikeIn l E D G a4 hq5 x2) wd_545 wd_546 wd_547 wd_2 wd_548 (by decide +kernel) ⟨by rw [hR]; exact Nat.le_of_ble_eq_true rfl, by rw [hR]; exact Nat.le_of_ble_eq_true rfl⟩ hI hN hK hS (rc_6 hI hq5 List.not_mem_nil) rfl rfl hl.1 rfl (Nat.le_of_ble_eq_true rfl) dX7_askAbout_16 ⟨Nat.zero_le _, Nat.zero_le _⟩ (fun r17 H locs hp hI hS => ?_)
    refine lv_istore_n (lv' := [(3, .int r17), (0, .ref h0), (1, .int x1), (2, .int x2)]) hx hb dX7_askAbout_19 rfl hl (by decide) rfl (fun ls hl => ?_)
    refine lv_aload_n hx hb dX7_askAbout_20 rfl (lv_at hl 1 rfl) ?_
    obtain ⟨a18, a20, a22, a24, a26, a28, w30, hO, hq19, hq21, hq23, hq25, hq27, hq29⟩ := op_9 hI hG0 List.not_mem_nil
    have hI := th_I.weak (a := h0) hI
    refine th_get hx hb hts inT7 hown hK hO rfl 1 (by decide) (hts _ (tb_c wd_190)) rfl rfl dX7_askAbout_21 ?_
    refine lv_iload_n hx hb dX7_askAbout_24 rfl (lv_at hl 2 rfl) ?_
    refine lv_iload_n hx hb dX7_askAbout_25 rfl (lv_at hl 3 rfl) ?_
    refine lv_iload_n hx hb dX7_askAbout_26 rfl (lv_at hl 0 rfl) ?_
    refine lv_aload_n hx hb dX7_askAbout_27 rfl (lv_at hl 1 rfl) ?_
    refine th_get hx hb hts inT7 hown hK hO rfl 0 (by decide) (hts _ (tb_c wd_189)) rfl rfl dX7_askAbout_28 ?_
    refine lv_iload_n hx hb dX7_askAbout_31 rfl (lv_at hl 2 rfl) ?_
    refine lv_iload_n hx hb dX7_askAbout_32 rfl (lv_at hl 3 rfl) ?_
    refine lv_iload_n hx hb dX7_askAbout_33 rfl (lv_at hl 0 rfl) ?_
    have hI := th_I.close hI hG0 hO (ok_9 hq19 hq21 hq23 hq25 hq27 hq29)
    refine th_cVi (As := [.int x1, .int x2, .int r17]) (rest := [.int r17, .int x2, .int x1, .ref a20]) (n := 3) (d := 1) ⟨hx, hb, hml, hown, hts⟩ (c_X6_pumpedAt l E D G a18 hq19 x1 x2 r17) wd_550 wd_551 wd_552 wd_2 wd_553 (by decide +kernel) ⟨by rw [hR]; exact Nat.le_of_ble_eq_true rfl, by rw [hR]; exact Nat.le_of_ble_eq_true rfl⟩ hI hN hK hS (rc_6 hI hq19 List.not_mem_nil) rfl rfl hl.1 rfl (Nat.le_of_ble_eq_true rfl) dX7_askAbout_34 ⟨Nat.zero_le _, Nat.zero_le _⟩ (fun r31 H locs hp hI hS => ?_)
    refine lv_aload_n hx hb dX7_askAbout_37 rfl (lv_at hl 1 rfl) ?_
    obtain ⟨a32, a34, a36, a38, a40, a42, w44, hO, hq33, hq35, hq37, hq39, hq41, hq43⟩ := op_9 hI hG0 List.not_mem_nil
    have hI := th_I.weak (a := h0) hI
    refine th_get hx hb hts inT7 hown hK hO rfl 5 (by decide) (hts _ (tb_c wd_194)) rfl rfl dX7_askAbout_38 ?_
    refine lv_iload_n hx hb dX7_askAbout_41 rfl (lv_at hl 2 rfl) ?_
    obtain ⟨_, hA45⟩ := op_0 hI hq43 (th_ne hG0 hq43 (show (9 : Nat) ≠ 0 by decide))
    refine th_iald hx hb hK hA45 0 rfl (iv_in (X := x1.toInt) rfl (by omega) (by omega)) dX7_askAbout_42 (fun v46 _ => ?_)
    refine lv_aload_n hx hb dX7_askAbout_43 rfl (lv_at hl 1 rfl) ?_
    refine th_get hx hb hts inT7 hown hK hO rfl 0 (by decide) (hts _ (tb_c wd_189)) rfl rfl dX7_askAbout_44 ?_
    have hI := th_I.close hI hG0 hO (ok_9 hq33 hq35 hq37 hq39 hq41 hq43)
    refine th_cVv (As := [.int x1, .int x2, .int r17, .int r31, .int v46, .ref a32]) (rest := []) (n := 6) (d := 0) ⟨hx, hb, hml, hown, hts⟩ (c_X0_about l E D G a20 hq21 x1 x2 r17 r31 v46 a32 hq33) wd_567 wd_568 wd_569 wd_7 wd_570 (by decide +kernel) ⟨by rw [hR]; exact Nat.le_of_ble_eq_true rfl, by rw [hR]; exact Nat.le_of_ble_eq_true rfl⟩ hI hN hK hS (rc_8 hI hq21 List.not_mem_nil) rfl rfl hl.1 rfl (Nat.le_of_ble_eq_true rfl) dX7_askAbout_47 ⟨Nat.zero_le _, Nat.zero_le _⟩ (fun H locs hI hS => ?_)
    rw [hQ]
    exact W.vret hx hb hr (fun t ht hW => ⟨⟨(), rfl, trivial, by rw [ht]; exact hI, hN.warm hW, va_K.moved hW.alike hK⟩, hS.F ht⟩) hS.2.2 dX7_askAbout_50
  · skip
    try simp only [rg, not_and, Int.not_le] at hp
    have hp48 := hp
    refine lv_if_eq (tgt := 50) hx hb dX7_askAbout_8 (by decide) (fun _ => ?_) (fun c => absurd c (by decide))
    rw [hQ]
    exact W.vret hx hb hr (fun t ht hW => ⟨⟨(), rfl, trivial, by rw [ht]; exact hI, hN.warm hW, va_K.moved hW.alike hK⟩, hS.F ht⟩) hS.2.2 dX7_askAbout_50
theorem dX7_priceAt_0g : (decode cX7_priceAt 0 = .ok (.iload_n 1, 1)) ∧ (decode cX7_priceAt 1 = .ok (.invokestatic 43, 3)) ∧ (decode cX7_priceAt 4 = .ok (.ifCond .eq 10, 3)) ∧ (decode cX7_priceAt 7 = .ok (.iload_n 2, 1)) ∧ (decode cX7_priceAt 8 = .ok (.invokestatic 47, 3)) ∧ (decode cX7_priceAt 11 = .ok (.ifCond .ne 5, 3)) ∧ (decode cX7_priceAt 14 = .ok (.iconst 0, 1)) ∧ (decode cX7_priceAt 15 = .ok (.ireturn, 1)) ∧ (decode cX7_priceAt 16 = .ok (.aload_n 0, 1)) ∧ (decode cX7_priceAt 17 = .ok (.invokevirtual 50, 3)) := by decide +kernel
theorem dX7_priceAt_0 : decode cX7_priceAt 0 = .ok (.iload_n 1, 1) := dX7_priceAt_0g.1
theorem dX7_priceAt_1 : decode cX7_priceAt 1 = .ok (.invokestatic 43, 3) := dX7_priceAt_0g.2.1
theorem dX7_priceAt_4 : decode cX7_priceAt 4 = .ok (.ifCond .eq 10, 3) := dX7_priceAt_0g.2.2.1
theorem dX7_priceAt_7 : decode cX7_priceAt 7 = .ok (.iload_n 2, 1) := dX7_priceAt_0g.2.2.2.1
theorem dX7_priceAt_8 : decode cX7_priceAt 8 = .ok (.invokestatic 47, 3) := dX7_priceAt_0g.2.2.2.2.1
theorem dX7_priceAt_11 : decode cX7_priceAt 11 = .ok (.ifCond .ne 5, 3) := dX7_priceAt_0g.2.2.2.2.2.1
theorem dX7_priceAt_14 : decode cX7_priceAt 14 = .ok (.iconst 0, 1) := dX7_priceAt_0g.2.2.2.2.2.2.1
theorem dX7_priceAt_15 : decode cX7_priceAt 15 = .ok (.ireturn, 1) := dX7_priceAt_0g.2.2.2.2.2.2.2.1
theorem dX7_priceAt_16 : decode cX7_priceAt 16 = .ok (.aload_n 0, 1) := dX7_priceAt_0g.2.2.2.2.2.2.2.2.1
theorem dX7_priceAt_17 : decode cX7_priceAt 17 = .ok (.invokevirtual 50, 3) := dX7_priceAt_0g.2.2.2.2.2.2.2.2.2
theorem dX7_priceAt_20g : (decode cX7_priceAt 20 = .ok (.iload_n 2, 1)) ∧ (decode cX7_priceAt 21 = .ok (.bipush 24, 2)) ∧ (decode cX7_priceAt 23 = .ok (.imul, 1)) ∧ (decode cX7_priceAt 24 = .ok (.iload_n 1, 1)) ∧ (decode cX7_priceAt 25 = .ok (.iadd, 1)) ∧ (decode cX7_priceAt 26 = .ok (.istore_n 3, 1)) ∧ (decode cX7_priceAt 27 = .ok (.aload_n 0, 1)) ∧ (decode cX7_priceAt 28 = .ok (.getfield 35, 3)) ∧ (decode cX7_priceAt 31 = .ok (.invokevirtual 76, 3)) ∧ (decode cX7_priceAt 34 = .ok (.astore 4, 2)) := by decide +kernel
theorem dX7_priceAt_20 : decode cX7_priceAt 20 = .ok (.iload_n 2, 1) := dX7_priceAt_20g.1
theorem dX7_priceAt_21 : decode cX7_priceAt 21 = .ok (.bipush 24, 2) := dX7_priceAt_20g.2.1
theorem dX7_priceAt_23 : decode cX7_priceAt 23 = .ok (.imul, 1) := dX7_priceAt_20g.2.2.1
theorem dX7_priceAt_24 : decode cX7_priceAt 24 = .ok (.iload_n 1, 1) := dX7_priceAt_20g.2.2.2.1
theorem dX7_priceAt_25 : decode cX7_priceAt 25 = .ok (.iadd, 1) := dX7_priceAt_20g.2.2.2.2.1
theorem dX7_priceAt_26 : decode cX7_priceAt 26 = .ok (.istore_n 3, 1) := dX7_priceAt_20g.2.2.2.2.2.1
theorem dX7_priceAt_27 : decode cX7_priceAt 27 = .ok (.aload_n 0, 1) := dX7_priceAt_20g.2.2.2.2.2.2.1
theorem dX7_priceAt_28 : decode cX7_priceAt 28 = .ok (.getfield 35, 3) := dX7_priceAt_20g.2.2.2.2.2.2.2.1
theorem dX7_priceAt_31 : decode cX7_priceAt 31 = .ok (.invokevirtual 76, 3) := dX7_priceAt_20g.2.2.2.2.2.2.2.2.1
theorem dX7_priceAt_34 : decode cX7_priceAt 34 = .ok (.astore 4, 2) := dX7_priceAt_20g.2.2.2.2.2.2.2.2.2
theorem dX7_priceAt_36g : (decode cX7_priceAt 36 = .ok (.aload_n 0, 1)) ∧ (decode cX7_priceAt 37 = .ok (.getfield 22, 3)) ∧ (decode cX7_priceAt 40 = .ok (.iload_n 3, 1)) ∧ (decode cX7_priceAt 41 = .ok (.iaload, 1)) ∧ (decode cX7_priceAt 42 = .ok (.ifCond .ne 88, 3)) ∧ (decode cX7_priceAt 45 = .ok (.aload 4, 2)) ∧ (decode cX7_priceAt 47 = .ok (.ifnull 83, 3)) ∧ (decode cX7_priceAt 50 = .ok (.aload_n 0, 1)) ∧ (decode cX7_priceAt 51 = .ok (.iload_n 1, 1)) ∧ (decode cX7_priceAt 52 = .ok (.iload_n 2, 1)) := by decide +kernel
theorem dX7_priceAt_36 : decode cX7_priceAt 36 = .ok (.aload_n 0, 1) := dX7_priceAt_36g.1
theorem dX7_priceAt_37 : decode cX7_priceAt 37 = .ok (.getfield 22, 3) := dX7_priceAt_36g.2.1
theorem dX7_priceAt_40 : decode cX7_priceAt 40 = .ok (.iload_n 3, 1) := dX7_priceAt_36g.2.2.1
theorem dX7_priceAt_41 : decode cX7_priceAt 41 = .ok (.iaload, 1) := dX7_priceAt_36g.2.2.2.1
theorem dX7_priceAt_42 : decode cX7_priceAt 42 = .ok (.ifCond .ne 88, 3) := dX7_priceAt_36g.2.2.2.2.1
theorem dX7_priceAt_45 : decode cX7_priceAt 45 = .ok (.aload 4, 2) := dX7_priceAt_36g.2.2.2.2.2.1
theorem dX7_priceAt_47 : decode cX7_priceAt 47 = .ok (.ifnull 83, 3) := dX7_priceAt_36g.2.2.2.2.2.2.1
theorem dX7_priceAt_50 : decode cX7_priceAt 50 = .ok (.aload_n 0, 1) := dX7_priceAt_36g.2.2.2.2.2.2.2.1
theorem dX7_priceAt_51 : decode cX7_priceAt 51 = .ok (.iload_n 1, 1) := dX7_priceAt_36g.2.2.2.2.2.2.2.2.1
theorem dX7_priceAt_52 : decode cX7_priceAt 52 = .ok (.iload_n 2, 1) := dX7_priceAt_36g.2.2.2.2.2.2.2.2.2
theorem dX7_priceAt_53g : (decode cX7_priceAt 53 = .ok (.invokevirtual 80, 3)) ∧ (decode cX7_priceAt 56 = .ok (.aload_n 0, 1)) ∧ (decode cX7_priceAt 57 = .ok (.getfield 12, 3)) ∧ (decode cX7_priceAt 60 = .ok (.aload 4, 2)) ∧ (decode cX7_priceAt 62 = .ok (.iconst 1, 1)) ∧ (decode cX7_priceAt 63 = .ok (.invokevirtual 86, 3)) ∧ (decode cX7_priceAt 66 = .ok (.istore 5, 2)) ∧ (decode cX7_priceAt 68 = .ok (.iload 5, 2)) ∧ (decode cX7_priceAt 70 = .ok (.ldc 90, 2)) ∧ (decode cX7_priceAt 72 = .ok (.if_icmp .ne 7, 3)) := by decide +kernel
theorem dX7_priceAt_53 : decode cX7_priceAt 53 = .ok (.invokevirtual 80, 3) := dX7_priceAt_53g.1
theorem dX7_priceAt_56 : decode cX7_priceAt 56 = .ok (.aload_n 0, 1) := dX7_priceAt_53g.2.1
theorem dX7_priceAt_57 : decode cX7_priceAt 57 = .ok (.getfield 12, 3) := dX7_priceAt_53g.2.2.1
theorem dX7_priceAt_60 : decode cX7_priceAt 60 = .ok (.aload 4, 2) := dX7_priceAt_53g.2.2.2.1
theorem dX7_priceAt_62 : decode cX7_priceAt 62 = .ok (.iconst 1, 1) := dX7_priceAt_53g.2.2.2.2.1
theorem dX7_priceAt_63 : decode cX7_priceAt 63 = .ok (.invokevirtual 86, 3) := dX7_priceAt_53g.2.2.2.2.2.1
theorem dX7_priceAt_66 : decode cX7_priceAt 66 = .ok (.istore 5, 2) := dX7_priceAt_53g.2.2.2.2.2.2.1
theorem dX7_priceAt_68 : decode cX7_priceAt 68 = .ok (.iload 5, 2) := dX7_priceAt_53g.2.2.2.2.2.2.2.1
theorem dX7_priceAt_70 : decode cX7_priceAt 70 = .ok (.ldc 90, 2) := dX7_priceAt_53g.2.2.2.2.2.2.2.2.1
theorem dX7_priceAt_72 : decode cX7_priceAt 72 = .ok (.if_icmp .ne 7, 3) := dX7_priceAt_53g.2.2.2.2.2.2.2.2.2
theorem dX7_priceAt_75g : (decode cX7_priceAt 75 = .ok (.iconst 1, 1)) ∧ (decode cX7_priceAt 76 = .ok (.goto 15, 3)) ∧ (decode cX7_priceAt 79 = .ok (.iconst 0, 1)) ∧ (decode cX7_priceAt 80 = .ok (.iload 5, 2)) ∧ (decode cX7_priceAt 82 = .ok (.sipush 999, 3)) ∧ (decode cX7_priceAt 85 = .ok (.invokestatic 91, 3)) ∧ (decode cX7_priceAt 88 = .ok (.invokestatic 96, 3)) ∧ (decode cX7_priceAt 91 = .ok (.istore 6, 2)) ∧ (decode cX7_priceAt 93 = .ok (.aload_n 0, 1)) ∧ (decode cX7_priceAt 94 = .ok (.getfield 12, 3)) := by decide +kernel
theorem dX7_priceAt_75 : decode cX7_priceAt 75 = .ok (.iconst 1, 1) := dX7_priceAt_75g.1
theorem dX7_priceAt_76 : decode cX7_priceAt 76 = .ok (.goto 15, 3) := dX7_priceAt_75g.2.1
theorem dX7_priceAt_79 : decode cX7_priceAt 79 = .ok (.iconst 0, 1) := dX7_priceAt_75g.2.2.1
theorem dX7_priceAt_80 : decode cX7_priceAt 80 = .ok (.iload 5, 2) := dX7_priceAt_75g.2.2.2.1
theorem dX7_priceAt_82 : decode cX7_priceAt 82 = .ok (.sipush 999, 3) := dX7_priceAt_75g.2.2.2.2.1
theorem dX7_priceAt_85 : decode cX7_priceAt 85 = .ok (.invokestatic 91, 3) := dX7_priceAt_75g.2.2.2.2.2.1
theorem dX7_priceAt_88 : decode cX7_priceAt 88 = .ok (.invokestatic 96, 3) := dX7_priceAt_75g.2.2.2.2.2.2.1
theorem dX7_priceAt_91 : decode cX7_priceAt 91 = .ok (.istore 6, 2) := dX7_priceAt_75g.2.2.2.2.2.2.2.1
theorem dX7_priceAt_93 : decode cX7_priceAt 93 = .ok (.aload_n 0, 1) := dX7_priceAt_75g.2.2.2.2.2.2.2.2.1
theorem dX7_priceAt_94 : decode cX7_priceAt 94 = .ok (.getfield 12, 3) := dX7_priceAt_75g.2.2.2.2.2.2.2.2.2
theorem dX7_priceAt_97g : (decode cX7_priceAt 97 = .ok (.aload 4, 2)) ∧ (decode cX7_priceAt 99 = .ok (.iconst 3, 1)) ∧ (decode cX7_priceAt 100 = .ok (.invokevirtual 86, 3)) ∧ (decode cX7_priceAt 103 = .ok (.ldc 90, 2)) ∧ (decode cX7_priceAt 105 = .ok (.if_icmp .ne 7, 3)) ∧ (decode cX7_priceAt 108 = .ok (.iconst 0, 1)) ∧ (decode cX7_priceAt 109 = .ok (.goto 6, 3)) ∧ (decode cX7_priceAt 112 = .ok (.sipush 1024, 3)) ∧ (decode cX7_priceAt 115 = .ok (.istore 7, 2)) ∧ (decode cX7_priceAt 117 = .ok (.aload_n 0, 1)) := by decide +kernel
theorem dX7_priceAt_97 : decode cX7_priceAt 97 = .ok (.aload 4, 2) := dX7_priceAt_97g.1
theorem dX7_priceAt_99 : decode cX7_priceAt 99 = .ok (.iconst 3, 1) := dX7_priceAt_97g.2.1
theorem dX7_priceAt_100 : decode cX7_priceAt 100 = .ok (.invokevirtual 86, 3) := dX7_priceAt_97g.2.2.1
theorem dX7_priceAt_103 : decode cX7_priceAt 103 = .ok (.ldc 90, 2) := dX7_priceAt_97g.2.2.2.1
theorem dX7_priceAt_105 : decode cX7_priceAt 105 = .ok (.if_icmp .ne 7, 3) := dX7_priceAt_97g.2.2.2.2.1
theorem dX7_priceAt_108 : decode cX7_priceAt 108 = .ok (.iconst 0, 1) := dX7_priceAt_97g.2.2.2.2.2.1
theorem dX7_priceAt_109 : decode cX7_priceAt 109 = .ok (.goto 6, 3) := dX7_priceAt_97g.2.2.2.2.2.2.1
theorem dX7_priceAt_112 : decode cX7_priceAt 112 = .ok (.sipush 1024, 3) := dX7_priceAt_97g.2.2.2.2.2.2.2.1
theorem dX7_priceAt_115 : decode cX7_priceAt 115 = .ok (.istore 7, 2) := dX7_priceAt_97g.2.2.2.2.2.2.2.2.1
theorem dX7_priceAt_117 : decode cX7_priceAt 117 = .ok (.aload_n 0, 1) := dX7_priceAt_97g.2.2.2.2.2.2.2.2.2
theorem dX7_priceAt_118g : (decode cX7_priceAt 118 = .ok (.getfield 22, 3)) ∧ (decode cX7_priceAt 121 = .ok (.iload_n 3, 1)) ∧ (decode cX7_priceAt 122 = .ok (.iconst 1, 1)) ∧ (decode cX7_priceAt 123 = .ok (.iload 6, 2)) ∧ (decode cX7_priceAt 125 = .ok (.iload 7, 2)) ∧ (decode cX7_priceAt 127 = .ok (.ior, 1)) ∧ (decode cX7_priceAt 128 = .ok (.iadd, 1)) ∧ (decode cX7_priceAt 129 = .ok (.iastore, 1)) ∧ (decode cX7_priceAt 130 = .ok (.aload 4, 2)) ∧ (decode cX7_priceAt 132 = .ok (.ifnonnull 7, 3)) := by decide +kernel
theorem dX7_priceAt_118 : decode cX7_priceAt 118 = .ok (.getfield 22, 3) := dX7_priceAt_118g.1
theorem dX7_priceAt_121 : decode cX7_priceAt 121 = .ok (.iload_n 3, 1) := dX7_priceAt_118g.2.1
theorem dX7_priceAt_122 : decode cX7_priceAt 122 = .ok (.iconst 1, 1) := dX7_priceAt_118g.2.2.1
theorem dX7_priceAt_123 : decode cX7_priceAt 123 = .ok (.iload 6, 2) := dX7_priceAt_118g.2.2.2.1
theorem dX7_priceAt_125 : decode cX7_priceAt 125 = .ok (.iload 7, 2) := dX7_priceAt_118g.2.2.2.2.1
theorem dX7_priceAt_127 : decode cX7_priceAt 127 = .ok (.ior, 1) := dX7_priceAt_118g.2.2.2.2.2.1
theorem dX7_priceAt_128 : decode cX7_priceAt 128 = .ok (.iadd, 1) := dX7_priceAt_118g.2.2.2.2.2.2.1
theorem dX7_priceAt_129 : decode cX7_priceAt 129 = .ok (.iastore, 1) := dX7_priceAt_118g.2.2.2.2.2.2.2.1
theorem dX7_priceAt_130 : decode cX7_priceAt 130 = .ok (.aload 4, 2) := dX7_priceAt_118g.2.2.2.2.2.2.2.2.1
theorem dX7_priceAt_132 : decode cX7_priceAt 132 = .ok (.ifnonnull 7, 3) := dX7_priceAt_118g.2.2.2.2.2.2.2.2.2
theorem dX7_priceAt_135g : (decode cX7_priceAt 135 = .ok (.iconst 1, 1)) ∧ (decode cX7_priceAt 136 = .ok (.goto 11, 3)) ∧ (decode cX7_priceAt 139 = .ok (.aload_n 0, 1)) ∧ (decode cX7_priceAt 140 = .ok (.getfield 22, 3)) ∧ (decode cX7_priceAt 143 = .ok (.iload_n 3, 1)) ∧ (decode cX7_priceAt 144 = .ok (.iaload, 1)) ∧ (decode cX7_priceAt 145 = .ok (.iconst 1, 1)) ∧ (decode cX7_priceAt 146 = .ok (.isub, 1)) ∧ (decode cX7_priceAt 147 = .ok (.ireturn, 1)) := by decide +kernel
theorem dX7_priceAt_135 : decode cX7_priceAt 135 = .ok (.iconst 1, 1) := dX7_priceAt_135g.1
theorem dX7_priceAt_136 : decode cX7_priceAt 136 = .ok (.goto 11, 3) := dX7_priceAt_135g.2.1
theorem dX7_priceAt_139 : decode cX7_priceAt 139 = .ok (.aload_n 0, 1) := dX7_priceAt_135g.2.2.1
theorem dX7_priceAt_140 : decode cX7_priceAt 140 = .ok (.getfield 22, 3) := dX7_priceAt_135g.2.2.2.1
theorem dX7_priceAt_143 : decode cX7_priceAt 143 = .ok (.iload_n 3, 1) := dX7_priceAt_135g.2.2.2.2.1
theorem dX7_priceAt_144 : decode cX7_priceAt 144 = .ok (.iaload, 1) := dX7_priceAt_135g.2.2.2.2.2.1
theorem dX7_priceAt_145 : decode cX7_priceAt 145 = .ok (.iconst 1, 1) := dX7_priceAt_135g.2.2.2.2.2.2.1
theorem dX7_priceAt_146 : decode cX7_priceAt 146 = .ok (.isub, 1) := dX7_priceAt_135g.2.2.2.2.2.2.2.1
theorem dX7_priceAt_147 : decode cX7_priceAt 147 = .ok (.ireturn, 1) := dX7_priceAt_135g.2.2.2.2.2.2.2.2
set_option maxHeartbeats 4000000 in
set_option maxRecDepth 100000 in
theorem c_X7_priceAt (l : Launch) (E : Nat → Nat) (D : va_G) (G : th_G) (h0 : Nat) (hG0 : G h0 = some (9, 0)) (x1 x2 : Int32) : Met l yX7_priceAt (tb (.code yX7_priceAt cX7_priceAt 8 (some .int))) (rm 4) (va_Pc [.ref h0, .int x1, .int x2] (th_P E D G)) (QI E D G (fun r => True)) 0 0 (th_A G) := by
  refine Met.ofW (cc := cX7_priceAt) (maxL := 8) (ret := (some .int)) (by decide) rfl ?_
  intro p e s m args below meth c s₁ B hml hv
  obtain ⟨hav, hI, hN, hK⟩ := hv
  have hx := B.exec
  have hb := B.bytes
  have hr := B.returns
  have hts := atoms_spec (ws := tb (.code yX7_priceAt cX7_priceAt 8 (some .int))) B.pre
  have hown : s.vm.findClass RX7 = some m.cls := findClass_of_methodNamed B.named
  have hlocks := B.notSynchronized
  have hS : va_S (th_A G) s.heap s.heap [] := va_S.rf
  have hl := lv_entry ([.ref h0, .int x1, .int x2]) (n := 8) (Nat.le_of_ble_eq_true rfl)
  rw [show entryFrame m args 8 = entryFrame m ([.ref h0, .int x1, .int x2] : List Value).toArray 8 from by rw [hav], lg_entry_eq]
  generalize (lg_sl ([.ref h0, .int x1, .int x2]) ++ List.replicate (8 - (lg_sl ([.ref h0, .int x1, .int x2])).length) Slot.unset).toArray = ls at hl ⊢
  have hl : lv_has ls 8 [(0, .ref h0), (1, .int x1), (2, .int x2)] := hl
  generalize hR : (headSpec (tb (.code yX7_priceAt cX7_priceAt 8 (some .int))) (rm 4)).room = R
  have hR := hR.symm
  generalize hQ : MQ below (QI E D G (fun r => True)) args s 0 0 (th_A G) = QF
  have hQ := hQ.symm
  refine lv_iload_n hx hb dX7_priceAt_0 rfl (lv_at hl 1 rfl) ?_
  refine th_cSN (As := [.int x1]) (rest := []) (n := 1) (d := 0) ⟨hx, hb, hml, hown, hts⟩ (c_X11_isCell l s.heap x1) wn_534 wd_402 wd_1 wd_403 (by decide +kernel) ⟨by rw [hR]; exact Nat.le_of_ble_eq_true rfl, by rw [hR]; exact Nat.le_of_ble_eq_true rfl⟩ hN hS rfl hl.1 rfl (Nat.le_of_ble_eq_true rfl) dX7_priceAt_1 ⟨Nat.zero_le _, Nat.zero_le _⟩ (fun r1 locs hp hS => ?_)
  rcases hp with ⟨rfl, hp⟩ | ⟨rfl, hp⟩
  · skip
    try simp only [rg, not_and, Int.not_le] at hp
    have hp2 := hp
    refine lv_if_eq (tgt := 14) hx hb dX7_priceAt_4 (by decide) (fun c => absurd c (by decide)) (fun _ => ?_)
    refine lv_iload_n hx hb dX7_priceAt_7 rfl (lv_at hl 2 rfl) ?_
    refine th_cSN (As := [.int x2]) (rest := []) (n := 1) (d := 0) ⟨hx, hb, hml, hown, hts⟩ (c_X11_isHour l s.heap x2) wn_535 wd_467 wd_1 wd_468 (by decide +kernel) ⟨by rw [hR]; exact Nat.le_of_ble_eq_true rfl, by rw [hR]; exact Nat.le_of_ble_eq_true rfl⟩ hN hS rfl hl.1 rfl (Nat.le_of_ble_eq_true rfl) dX7_priceAt_8 ⟨Nat.zero_le _, Nat.zero_le _⟩ (fun r3 locs hp hS => ?_)
    rcases hp with ⟨rfl, hp⟩ | ⟨rfl, hp⟩
    · skip
      try simp only [rg, not_and, Int.not_le] at hp
      have hp4 := hp
      refine lv_if_ne (tgt := 16) hx hb dX7_priceAt_11 (by decide) (fun _ => ?_) (fun c => absurd c (by decide))
      refine lv_aload_n hx hb dX7_priceAt_16 rfl (lv_at hl 0 rfl) ?_
      refine th_cVv (As := []) (rest := []) (n := 0) (d := 2) ⟨hx, hb, hml, hown, hts⟩ (c_X7_refresh l E D G h0 hG0 ) wd_536 wd_538 wp_4 wd_6 wd_539 (by decide +kernel) ⟨by rw [hR]; exact Nat.le_of_ble_eq_true rfl, by rw [hR]; exact Nat.le_of_ble_eq_true rfl⟩ hI hN hK hS (rc_9 hI hG0 List.not_mem_nil) rfl rfl hl.1 rfl (Nat.le_of_ble_eq_true rfl) dX7_priceAt_17 ⟨Nat.zero_le _, Nat.zero_le _⟩ (fun H locs hI hS => ?_)
      refine lv_iload_n hx hb dX7_priceAt_20 rfl (lv_at hl 2 rfl) ?_
      refine lv_bipush (v := 24) hx hb dX7_priceAt_21 (by decide) ?_
      refine lv_imul hx hb dX7_priceAt_23 ?_
      refine lv_topi (fun v6 e7 => ?_)
      have tv6 : v6.toInt = x2.toInt * (24) := iv_mul rfl (by decide) e7 (by omega) (by omega)
      refine lv_iload_n hx hb dX7_priceAt_24 rfl (lv_at hl 1 rfl) ?_
      refine lv_iadd hx hb dX7_priceAt_25 ?_
      refine lv_topi (fun v8 e9 => ?_)
      have tv8 : v8.toInt = v6.toInt + x1.toInt := iv_add rfl rfl e9 (by omega) (by omega)
      refine lv_istore_n (lv' := [(3, .int v8), (0, .ref h0), (1, .int x1), (2, .int x2)]) hx hb dX7_priceAt_26 rfl hl (by decide) rfl (fun ls hl => ?_)
      refine lv_aload_n hx hb dX7_priceAt_27 rfl (lv_at hl 1 rfl) ?_
      obtain ⟨a10, a12, a14, a16, a18, a20, w22, hO, hq11, hq13, hq15, hq17, hq19, hq21⟩ := op_9 hI hG0 List.not_mem_nil
      have hI := th_I.weak (a := h0) hI
      refine th_get hx hb hts inT7 hown hK hO rfl 0 (by decide) (hts _ (tb_c wd_189)) rfl rfl dX7_priceAt_28 ?_
      have hI := th_I.close hI hG0 hO (ok_9 hq11 hq13 hq15 hq17 hq19 hq21)
      refine th_cVq (As := []) (rest := []) (n := 0) (d := 0) ⟨hx, hb, hml, hown, hts⟩ (c_X6_lawInForce l E D G a10 hq11 ) wd_562 wd_563 wd_564 wd_2 wd_565 (by decide +kernel) ⟨by rw [hR]; exact Nat.le_of_ble_eq_true rfl, by rw [hR]; exact Nat.le_of_ble_eq_true rfl⟩ hI hN hK hS (rc_6 hI hq11 List.not_mem_nil) rfl rfl hl.1 rfl (Nat.le_of_ble_eq_true rfl) dX7_priceAt_31 ⟨Nat.zero_le _, Nat.zero_le _⟩ (fun r23 H locs hp hI hS => ?_)
      obtain _ | a24 := r23
      · skip
        refine lv_astoreN (lv' := [(4, .null), (3, .int v8), (0, .ref h0), (1, .int x1), (2, .int x2)]) hx hb dX7_priceAt_34 hl (by decide) rfl (fun ls hl => ?_)
        refine lv_aload_n hx hb dX7_priceAt_36 rfl (lv_at hl 2 rfl) ?_
        obtain ⟨a27, a29, a31, a33, a35, a37, w39, hO, hq28, hq30, hq32, hq34, hq36, hq38⟩ := op_9 hI hG0 List.not_mem_nil
        have hI := th_I.weak (a := h0) hI
        refine th_get hx hb hts inT7 hown hK hO rfl 3 (by decide) (hts _ (tb_c wd_192)) rfl rfl dX7_priceAt_37 ?_
        refine lv_iload_n hx hb dX7_priceAt_40 rfl (lv_at hl 1 rfl) ?_
        obtain ⟨_, hA40⟩ := op_0 hI hq34 (th_ne hG0 hq34 (show (9 : Nat) ≠ 0 by decide))
        refine th_iald hx hb hK hA40 0 rfl (iv_in (X := v8.toInt) rfl (by omega) (by omega)) dX7_priceAt_41 (fun v41 _ => ?_)
        have k42 := iv_lo v41
        have k43 := iv_hi v41
        refine lv_if_ne (tgt := 130) hx hb dX7_priceAt_42 (by decide) (fun c44 => ?_) (fun c44 => ?_)
        · skip
          have k45 := iv_ne (X := v41.toInt) (Y := (0)) rfl (by decide) c44
          refine lv_aloadN hx hb dX7_priceAt_130 (lv_at hl 0 rfl) ?_
          refine lv_ifnonnullN hx hb dX7_priceAt_132 ?_
          refine lv_iconst (v := 1) hx hb dX7_priceAt_135 (by decide) ?_
          refine lv_goto (tgt := 147) hx hb dX7_priceAt_136 (by decide) ?_
          have hI := th_I.close hI hG0 hO (ok_9 hq28 hq30 hq32 hq34 hq36 hq38)
          have hpost : True := trivial
          rw [hQ]
          exact W.iret (v := 1) hx hb hr (fun t ht hW => ⟨⟨1, (), rfl, hpost, by rw [ht]; exact hI, hN.warm hW, va_K.moved hW.alike hK⟩, hS.F ht⟩) hS.2.2 dX7_priceAt_147
        · skip
          have k46 := iv_eq (X := v41.toInt) (Y := (0)) rfl (by decide) c44
          refine lv_aloadN hx hb dX7_priceAt_45 (lv_at hl 0 rfl) ?_
          refine lv_ifnullN (tgt := 130) hx hb dX7_priceAt_47 (by decide) ?_
          refine lv_aloadN hx hb dX7_priceAt_130 (lv_at hl 0 rfl) ?_
          refine lv_ifnonnullN hx hb dX7_priceAt_132 ?_
          refine lv_iconst (v := 1) hx hb dX7_priceAt_135 (by decide) ?_
          refine lv_goto (tgt := 147) hx hb dX7_priceAt_136 (by decide) ?_
          have hI := th_I.close hI hG0 hO (ok_9 hq28 hq30 hq32 hq34 hq36 hq38)
          have hpost : True := trivial
          rw [hQ]
          exact W.iret (v := 1) hx hb hr (fun t ht hW => ⟨⟨1, (), rfl, hpost, by rw [ht]; exact hI, hN.warm hW, va_K.moved hW.alike hK⟩, hS.F ht⟩) hS.2.2 dX7_priceAt_147
      · skip
        obtain ⟨m26, hq25⟩ := hp _ rfl
        refine lv_astore (lv' := [(4, .ref a24), (3, .int v8), (0, .ref h0), (1, .int x1), (2, .int x2)]) hx hb dX7_priceAt_34 hl (by decide) rfl (fun ls hl => ?_)
        refine lv_aload_n hx hb dX7_priceAt_36 rfl (lv_at hl 2 rfl) ?_
        obtain ⟨a47, a49, a51, a53, a55, a57, w59, hO, hq48, hq50, hq52, hq54, hq56, hq58⟩ := op_9 hI hG0 List.not_mem_nil
        have hI := th_I.weak (a := h0) hI
        refine th_get hx hb hts inT7 hown hK hO rfl 3 (by decide) (hts _ (tb_c wd_192)) rfl rfl dX7_priceAt_37 ?_
        refine lv_iload_n hx hb dX7_priceAt_40 rfl (lv_at hl 1 rfl) ?_
        obtain ⟨_, hA60⟩ := op_0 hI hq54 (th_ne hG0 hq54 (show (9 : Nat) ≠ 0 by decide))
        refine th_iald hx hb hK hA60 0 rfl (iv_in (X := v8.toInt) rfl (by omega) (by omega)) dX7_priceAt_41 (fun v61 _ => ?_)
        have k62 := iv_lo v61
        have k63 := iv_hi v61
        refine lv_if_ne (tgt := 130) hx hb dX7_priceAt_42 (by decide) (fun c64 => ?_) (fun c64 => ?_)
        · skip
          have k65 := iv_ne (X := v61.toInt) (Y := (0)) rfl (by decide) c64
          refine lv_aload hx hb dX7_priceAt_130 (lv_at hl 0 rfl) ?_
          refine lv_ifnonnull (tgt := 139) hx hb dX7_priceAt_132 (by decide) ?_
          refine lv_aload_n hx hb dX7_priceAt_139 rfl (lv_at hl 2 rfl) ?_
          refine th_get hx hb hts inT7 hown hK hO rfl 3 (by decide) (hts _ (tb_c wd_192)) rfl rfl dX7_priceAt_140 ?_
          refine lv_iload_n hx hb dX7_priceAt_143 rfl (lv_at hl 1 rfl) ?_
          obtain ⟨_, hA66⟩ := op_0 hI hq54 (th_ne hG0 hq54 (show (9 : Nat) ≠ 0 by decide))
          refine th_iald hx hb hK hA66 0 rfl (iv_in (X := v8.toInt) rfl (by omega) (by omega)) dX7_priceAt_144 (fun v67 _ => ?_)
          refine lv_iconst (v := 1) hx hb dX7_priceAt_145 (by decide) ?_
          refine lv_isub hx hb dX7_priceAt_146 ?_
          refine lv_topi (fun v68 e69 => ?_)
          try have tv68 : v68.toInt = v67.toInt - (1) := iv_sub rfl (by decide) e69 (by omega) (by omega)
          have hI := th_I.close hI hG0 hO (ok_9 hq48 hq50 hq52 hq54 hq56 hq58)
          have hpost : True := trivial
          rw [hQ]
          exact W.iret (v := v68) hx hb hr (fun t ht hW => ⟨⟨v68, (), rfl, hpost, by rw [ht]; exact hI, hN.warm hW, va_K.moved hW.alike hK⟩, hS.F ht⟩) hS.2.2 dX7_priceAt_147
        · skip
          have k70 := iv_eq (X := v61.toInt) (Y := (0)) rfl (by decide) c64
          refine lv_aload hx hb dX7_priceAt_45 (lv_at hl 0 rfl) ?_
          refine lv_ifnull hx hb dX7_priceAt_47 ?_
          refine lv_aload_n hx hb dX7_priceAt_50 rfl (lv_at hl 2 rfl) ?_
          refine lv_iload_n hx hb dX7_priceAt_51 rfl (lv_at hl 3 rfl) ?_
          refine lv_iload_n hx hb dX7_priceAt_52 rfl (lv_at hl 4 rfl) ?_
          have hI := th_I.close hI hG0 hO (ok_9 hq48 hq50 hq52 hq54 hq56 hq58)
          refine th_cVv (As := [.int x1, .int x2]) (rest := []) (n := 2) (d := 3) ⟨hx, hb, hml, hown, hts⟩ (c_X7_askAbout l E D G h0 hG0 x1 x2) wd_631 wd_633 wp_10 wd_6 wd_634 (by decide +kernel) ⟨by rw [hR]; exact Nat.le_of_ble_eq_true rfl, by rw [hR]; exact Nat.le_of_ble_eq_true rfl⟩ hI hN hK hS (rc_9 hI hG0 List.not_mem_nil) rfl rfl hl.1 rfl (Nat.le_of_ble_eq_true rfl) dX7_priceAt_53 ⟨Nat.zero_le _, Nat.zero_le _⟩ (fun H locs hI hS => ?_)
          refine lv_aload_n hx hb dX7_priceAt_56 rfl (lv_at hl 2 rfl) ?_
          obtain ⟨a72, a74, a76, a78, a80, a82, w84, hO, hq73, hq75, hq77, hq79, hq81, hq83⟩ := op_9 hI hG0 List.not_mem_nil
          have hI := th_I.weak (a := h0) hI
          refine th_get hx hb hts inT7 hown hK hO rfl 1 (by decide) (hts _ (tb_c wd_190)) rfl rfl dX7_priceAt_57 ?_
          refine lv_aload hx hb dX7_priceAt_60 (lv_at hl 0 rfl) ?_
          refine lv_iconst (v := 1) hx hb dX7_priceAt_62 (by decide) ?_
          have hI := th_I.close hI hG0 hO (ok_9 hq73 hq75 hq77 hq79 hq81 hq83)
          refine th_cVi (As := [.ref a24, .int 1]) (rest := []) (n := 2) (d := 1) ⟨hx, hb, hml, hown, hts⟩ (c_X0_tells l E D G a74 hq75 a24 (m26) hq25 1) wd_571 wd_572 wd_573 wd_7 wd_574 (by decide +kernel) ⟨by rw [hR]; exact Nat.le_of_ble_eq_true rfl, by rw [hR]; exact Nat.le_of_ble_eq_true rfl⟩ hI hN hK hS (rc_8 hI hq75 List.not_mem_nil) rfl rfl hl.1 rfl (Nat.le_of_ble_eq_true rfl) dX7_priceAt_63 ⟨Nat.zero_le _, Nat.zero_le _⟩ (fun r85 H locs hp hI hS => ?_)
          refine lv_istore (lv' := [(5, .int r85), (4, .ref a24), (3, .int v8), (0, .ref h0), (1, .int x1), (2, .int x2)]) hx hb dX7_priceAt_66 hl (by decide) rfl (fun ls hl => ?_)
          refine lv_iload hx hb dX7_priceAt_68 (lv_at hl 0 rfl) ?_
          refine lv_ldc hx hb hown (hts _ (tb_c wd_566)) dX7_priceAt_70 ?_
          have k86 := iv_lo r85
          have k87 := iv_hi r85
          refine lv_icmp_ne (tgt := 79) hx hb dX7_priceAt_72 (by decide) (fun c88 => ?_) (fun c88 => ?_)
          · skip
            have k89 := iv_ne (X := r85.toInt) (Y := (-2000000000)) rfl (by decide) c88
            refine lv_iconst (v := 0) hx hb dX7_priceAt_79 (by decide) ?_
            refine lv_iload hx hb dX7_priceAt_80 (lv_at hl 0 rfl) ?_
            refine lv_sipush (v := 999) hx hb dX7_priceAt_82 (by decide) ?_
            refine va_mmin hx hb (hml.trans hl.1.symm) hown (hts _ (tb_c wd_582)) (hts _ (tb_c wd_583)) (hts _ (tb_c wd_4)) (hts _ (tb_c wd_584)) (by rw [hR]; exact Nat.le_of_ble_eq_true rfl) (by rw [hR]; exact Nat.le_of_ble_eq_true rfl) (Nat.zero_le _) (Nat.zero_le _) dX7_priceAt_85 ?_
            refine lv_topi (fun v90 e91 => ?_)
            have tv90 := iv_min e91
            rw [show (999 : Int32).toInt = 999 from by decide] at tv90
            refine va_mmax hx hb (hml.trans hl.1.symm) hown (hts _ (tb_c wd_585)) (hts _ (tb_c wd_43)) (hts _ (tb_c wd_4)) (hts _ (tb_c wd_44)) (by rw [hR]; exact Nat.le_of_ble_eq_true rfl) (by rw [hR]; exact Nat.le_of_ble_eq_true rfl) (Nat.zero_le _) (Nat.zero_le _) dX7_priceAt_88 ?_
            refine lv_topi (fun v92 e93 => ?_)
            have tv92 := iv_max e93
            rw [show (0 : Int32).toInt = 0 from by decide] at tv92
            refine lv_istore (lv' := [(6, .int v92), (5, .int r85), (4, .ref a24), (3, .int v8), (0, .ref h0), (1, .int x1), (2, .int x2)]) hx hb dX7_priceAt_91 hl (by decide) rfl (fun ls hl => ?_)
            refine lv_aload_n hx hb dX7_priceAt_93 rfl (lv_at hl 4 rfl) ?_
            obtain ⟨a94, a96, a98, a100, a102, a104, w106, hO, hq95, hq97, hq99, hq101, hq103, hq105⟩ := op_9 hI hG0 List.not_mem_nil
            have hI := th_I.weak (a := h0) hI
            refine th_get hx hb hts inT7 hown hK hO rfl 1 (by decide) (hts _ (tb_c wd_190)) rfl rfl dX7_priceAt_94 ?_
            refine lv_aload hx hb dX7_priceAt_97 (lv_at hl 2 rfl) ?_
            refine lv_iconst (v := 3) hx hb dX7_priceAt_99 (by decide) ?_
            have hI := th_I.close hI hG0 hO (ok_9 hq95 hq97 hq99 hq101 hq103 hq105)
            refine th_cVi (As := [.ref a24, .int 3]) (rest := []) (n := 2) (d := 1) ⟨hx, hb, hml, hown, hts⟩ (c_X0_tells l E D G a96 hq97 a24 (m26) hq25 3) wd_571 wd_572 wd_573 wd_7 wd_574 (by decide +kernel) ⟨by rw [hR]; exact Nat.le_of_ble_eq_true rfl, by rw [hR]; exact Nat.le_of_ble_eq_true rfl⟩ hI hN hK hS (rc_8 hI hq97 List.not_mem_nil) rfl rfl hl.1 rfl (Nat.le_of_ble_eq_true rfl) dX7_priceAt_100 ⟨Nat.zero_le _, Nat.zero_le _⟩ (fun r107 H locs hp hI hS => ?_)
            refine lv_ldc hx hb hown (hts _ (tb_c wd_566)) dX7_priceAt_103 ?_
            have k108 := iv_lo r107
            have k109 := iv_hi r107
            refine lv_icmp_ne (tgt := 112) hx hb dX7_priceAt_105 (by decide) (fun c110 => ?_) (fun c110 => ?_)
            · skip
              have k111 := iv_ne (X := r107.toInt) (Y := (-2000000000)) rfl (by decide) c110
              refine lv_sipush (v := 1024) hx hb dX7_priceAt_112 (by decide) ?_
              refine lv_istore (lv' := [(7, .int 1024), (6, .int v92), (5, .int r85), (4, .ref a24), (3, .int v8), (0, .ref h0), (1, .int x1), (2, .int x2)]) hx hb dX7_priceAt_115 hl (by decide) rfl (fun ls hl => ?_)
              refine lv_aload_n hx hb dX7_priceAt_117 rfl (lv_at hl 5 rfl) ?_
              obtain ⟨a112, a114, a116, a118, a120, a122, w124, hO, hq113, hq115, hq117, hq119, hq121, hq123⟩ := op_9 hI hG0 List.not_mem_nil
              have hI := th_I.weak (a := h0) hI
              refine th_get hx hb hts inT7 hown hK hO rfl 3 (by decide) (hts _ (tb_c wd_192)) rfl rfl dX7_priceAt_118 ?_
              refine lv_iload_n hx hb dX7_priceAt_121 rfl (lv_at hl 4 rfl) ?_
              refine lv_iconst (v := 1) hx hb dX7_priceAt_122 (by decide) ?_
              refine lv_iload hx hb dX7_priceAt_123 (lv_at hl 1 rfl) ?_
              refine lv_iload hx hb dX7_priceAt_125 (lv_at hl 0 rfl) ?_
              refine lv_ior hx hb dX7_priceAt_127 ?_
              refine lv_topi (fun v125 e126 => ?_)
              refine lv_iadd hx hb dX7_priceAt_128 ?_
              refine lv_topi (fun v127 e128 => ?_)
              try have tv127 : v127.toInt = (1) + v125.toInt := iv_add (by decide) rfl e128 (by omega) (by omega)
              obtain ⟨_, hA129⟩ := op_0 hI hq119 (th_ne hG0 hq119 (show (9 : Nat) ≠ 0 by decide))
              refine th_iast hx hb hK hA129 0 rfl hS ⟨_, hq119⟩ (iv_in (X := v8.toInt) rfl (by omega) (by omega)) dX7_priceAt_129 (fun H locs hA129 oq hS => ?_)
              have hI := th_I.put hI hq119 hA129 ok_0 oq
              have hO := hO.kept (oq _ (fun z => th_ne hG0 hq119 (show (9 : Nat) ≠ 0 by decide) (List.mem_singleton.mpr z.symm)))
              refine lv_aload hx hb dX7_priceAt_130 (lv_at hl 3 rfl) ?_
              refine lv_ifnonnull (tgt := 139) hx hb dX7_priceAt_132 (by decide) ?_
              refine lv_aload_n hx hb dX7_priceAt_139 rfl (lv_at hl 5 rfl) ?_
              refine th_get hx hb hts inT7 hown hK hO rfl 3 (by decide) (hts _ (tb_c wd_192)) rfl rfl dX7_priceAt_140 ?_
              refine lv_iload_n hx hb dX7_priceAt_143 rfl (lv_at hl 4 rfl) ?_
              obtain ⟨_, hA130⟩ := op_0 hI hq119 (th_ne hG0 hq119 (show (9 : Nat) ≠ 0 by decide))
              refine th_iald hx hb hK hA130 0 rfl (iv_in (X := v8.toInt) rfl (by omega) (by omega)) dX7_priceAt_144 (fun v131 _ => ?_)
              refine lv_iconst (v := 1) hx hb dX7_priceAt_145 (by decide) ?_
              refine lv_isub hx hb dX7_priceAt_146 ?_
              refine lv_topi (fun v132 e133 => ?_)
              try have tv132 : v132.toInt = v131.toInt - (1) := iv_sub rfl (by decide) e133 (by omega) (by omega)
              have hI := th_I.close hI hG0 hO (ok_9 hq113 hq115 hq117 hq119 hq121 hq123)
              have hpost : True := trivial
              rw [hQ]
              exact W.iret (v := v132) hx hb hr (fun t ht hW => ⟨⟨v132, (), rfl, hpost, by rw [ht]; exact hI, hN.warm hW, va_K.moved hW.alike hK⟩, hS.F ht⟩) hS.2.2 dX7_priceAt_147
            · skip
              have k134 := iv_eq (X := r107.toInt) (Y := (-2000000000)) rfl (by decide) c110
              refine lv_iconst (v := 0) hx hb dX7_priceAt_108 (by decide) ?_
              refine lv_goto (tgt := 115) hx hb dX7_priceAt_109 (by decide) ?_
              refine lv_istore (lv' := [(7, .int 0), (6, .int v92), (5, .int r85), (4, .ref a24), (3, .int v8), (0, .ref h0), (1, .int x1), (2, .int x2)]) hx hb dX7_priceAt_115 hl (by decide) rfl (fun ls hl => ?_)
              refine lv_aload_n hx hb dX7_priceAt_117 rfl (lv_at hl 5 rfl) ?_
              obtain ⟨a135, a137, a139, a141, a143, a145, w147, hO, hq136, hq138, hq140, hq142, hq144, hq146⟩ := op_9 hI hG0 List.not_mem_nil
              have hI := th_I.weak (a := h0) hI
              refine th_get hx hb hts inT7 hown hK hO rfl 3 (by decide) (hts _ (tb_c wd_192)) rfl rfl dX7_priceAt_118 ?_
              refine lv_iload_n hx hb dX7_priceAt_121 rfl (lv_at hl 4 rfl) ?_
              refine lv_iconst (v := 1) hx hb dX7_priceAt_122 (by decide) ?_
              refine lv_iload hx hb dX7_priceAt_123 (lv_at hl 1 rfl) ?_
              refine lv_iload hx hb dX7_priceAt_125 (lv_at hl 0 rfl) ?_
              refine lv_ior hx hb dX7_priceAt_127 ?_
              refine lv_topi (fun v148 e149 => ?_)
              refine lv_iadd hx hb dX7_priceAt_128 ?_
              refine lv_topi (fun v150 e151 => ?_)
              try have tv150 : v150.toInt = (1) + v148.toInt := iv_add (by decide) rfl e151 (by omega) (by omega)
              obtain ⟨_, hA152⟩ := op_0 hI hq142 (th_ne hG0 hq142 (show (9 : Nat) ≠ 0 by decide))
              refine th_iast hx hb hK hA152 0 rfl hS ⟨_, hq142⟩ (iv_in (X := v8.toInt) rfl (by omega) (by omega)) dX7_priceAt_129 (fun H locs hA152 oq hS => ?_)
              have hI := th_I.put hI hq142 hA152 ok_0 oq
              have hO := hO.kept (oq _ (fun z => th_ne hG0 hq142 (show (9 : Nat) ≠ 0 by decide) (List.mem_singleton.mpr z.symm)))
              refine lv_aload hx hb dX7_priceAt_130 (lv_at hl 3 rfl) ?_
              refine lv_ifnonnull (tgt := 139) hx hb dX7_priceAt_132 (by decide) ?_
              refine lv_aload_n hx hb dX7_priceAt_139 rfl (lv_at hl 5 rfl) ?_
              refine th_get hx hb hts inT7 hown hK hO rfl 3 (by decide) (hts _ (tb_c wd_192)) rfl rfl dX7_priceAt_140 ?_
              refine lv_iload_n hx hb dX7_priceAt_143 rfl (lv_at hl 4 rfl) ?_
              obtain ⟨_, hA153⟩ := op_0 hI hq142 (th_ne hG0 hq142 (show (9 : Nat) ≠ 0 by decide))
              refine th_iald hx hb hK hA153 0 rfl (iv_in (X := v8.toInt) rfl (by omega) (by omega)) dX7_priceAt_144 (fun v154 _ => ?_)
              refine lv_iconst (v := 1) hx hb dX7_priceAt_145 (by decide) ?_
              refine lv_isub hx hb dX7_priceAt_146 ?_
              refine lv_topi (fun v155 e156 => ?_)
              try have tv155 : v155.toInt = v154.toInt - (1) := iv_sub rfl (by decide) e156 (by omega) (by omega)
              have hI := th_I.close hI hG0 hO (ok_9 hq136 hq138 hq140 hq142 hq144 hq146)
              have hpost : True := trivial
              rw [hQ]
              exact W.iret (v := v155) hx hb hr (fun t ht hW => ⟨⟨v155, (), rfl, hpost, by rw [ht]; exact hI, hN.warm hW, va_K.moved hW.alike hK⟩, hS.F ht⟩) hS.2.2 dX7_priceAt_147
          · skip
            have k157 := iv_eq (X := r85.toInt) (Y := (-2000000000)) rfl (by decide) c88
            refine lv_iconst (v := 1) hx hb dX7_priceAt_75 (by decide) ?_
            refine lv_goto (tgt := 91) hx hb dX7_priceAt_76 (by decide) ?_
            refine lv_istore (lv' := [(6, .int 1), (5, .int r85), (4, .ref a24), (3, .int v8), (0, .ref h0), (1, .int x1), (2, .int x2)]) hx hb dX7_priceAt_91 hl (by decide) rfl (fun ls hl => ?_)
            refine lv_aload_n hx hb dX7_priceAt_93 rfl (lv_at hl 4 rfl) ?_
            obtain ⟨a158, a160, a162, a164, a166, a168, w170, hO, hq159, hq161, hq163, hq165, hq167, hq169⟩ := op_9 hI hG0 List.not_mem_nil
            have hI := th_I.weak (a := h0) hI
            refine th_get hx hb hts inT7 hown hK hO rfl 1 (by decide) (hts _ (tb_c wd_190)) rfl rfl dX7_priceAt_94 ?_
            refine lv_aload hx hb dX7_priceAt_97 (lv_at hl 2 rfl) ?_
            refine lv_iconst (v := 3) hx hb dX7_priceAt_99 (by decide) ?_
            have hI := th_I.close hI hG0 hO (ok_9 hq159 hq161 hq163 hq165 hq167 hq169)
            refine th_cVi (As := [.ref a24, .int 3]) (rest := []) (n := 2) (d := 1) ⟨hx, hb, hml, hown, hts⟩ (c_X0_tells l E D G a160 hq161 a24 (m26) hq25 3) wd_571 wd_572 wd_573 wd_7 wd_574 (by decide +kernel) ⟨by rw [hR]; exact Nat.le_of_ble_eq_true rfl, by rw [hR]; exact Nat.le_of_ble_eq_true rfl⟩ hI hN hK hS (rc_8 hI hq161 List.not_mem_nil) rfl rfl hl.1 rfl (Nat.le_of_ble_eq_true rfl) dX7_priceAt_100 ⟨Nat.zero_le _, Nat.zero_le _⟩ (fun r171 H locs hp hI hS => ?_)
            refine lv_ldc hx hb hown (hts _ (tb_c wd_566)) dX7_priceAt_103 ?_
            have k172 := iv_lo r171
            have k173 := iv_hi r171
            refine lv_icmp_ne (tgt := 112) hx hb dX7_priceAt_105 (by decide) (fun c174 => ?_) (fun c174 => ?_)
            · skip
              have k175 := iv_ne (X := r171.toInt) (Y := (-2000000000)) rfl (by decide) c174
              refine lv_sipush (v := 1024) hx hb dX7_priceAt_112 (by decide) ?_
              refine lv_istore (lv' := [(7, .int 1024), (6, .int 1), (5, .int r85), (4, .ref a24), (3, .int v8), (0, .ref h0), (1, .int x1), (2, .int x2)]) hx hb dX7_priceAt_115 hl (by decide) rfl (fun ls hl => ?_)
              refine lv_aload_n hx hb dX7_priceAt_117 rfl (lv_at hl 5 rfl) ?_
              obtain ⟨a176, a178, a180, a182, a184, a186, w188, hO, hq177, hq179, hq181, hq183, hq185, hq187⟩ := op_9 hI hG0 List.not_mem_nil
              have hI := th_I.weak (a := h0) hI
              refine th_get hx hb hts inT7 hown hK hO rfl 3 (by decide) (hts _ (tb_c wd_192)) rfl rfl dX7_priceAt_118 ?_
              refine lv_iload_n hx hb dX7_priceAt_121 rfl (lv_at hl 4 rfl) ?_
              refine lv_iconst (v := 1) hx hb dX7_priceAt_122 (by decide) ?_
              refine lv_iload hx hb dX7_priceAt_123 (lv_at hl 1 rfl) ?_
              refine lv_iload hx hb dX7_priceAt_125 (lv_at hl 0 rfl) ?_
              refine lv_ior hx hb dX7_priceAt_127 ?_
              refine lv_topi (fun v189 e190 => ?_)
              refine lv_iadd hx hb dX7_priceAt_128 ?_
              refine lv_topi (fun v191 e192 => ?_)
              try have tv191 : v191.toInt = (1) + v189.toInt := iv_add (by decide) rfl e192 (by omega) (by omega)
              obtain ⟨_, hA193⟩ := op_0 hI hq183 (th_ne hG0 hq183 (show (9 : Nat) ≠ 0 by decide))
              refine th_iast hx hb hK hA193 0 rfl hS ⟨_, hq183⟩ (iv_in (X := v8.toInt) rfl (by omega) (by omega)) dX7_priceAt_129 (fun H locs hA193 oq hS => ?_)
              have hI := th_I.put hI hq183 hA193 ok_0 oq
              have hO := hO.kept (oq _ (fun z => th_ne hG0 hq183 (show (9 : Nat) ≠ 0 by decide) (List.mem_singleton.mpr z.symm)))
              refine lv_aload hx hb dX7_priceAt_130 (lv_at hl 3 rfl) ?_
              refine lv_ifnonnull (tgt := 139) hx hb dX7_priceAt_132 (by decide) ?_
              refine lv_aload_n hx hb dX7_priceAt_139 rfl (lv_at hl 5 rfl) ?_
              refine th_get hx hb hts inT7 hown hK hO rfl 3 (by decide) (hts _ (tb_c wd_192)) rfl rfl dX7_priceAt_140 ?_
              refine lv_iload_n hx hb dX7_priceAt_143 rfl (lv_at hl 4 rfl) ?_
              obtain ⟨_, hA194⟩ := op_0 hI hq183 (th_ne hG0 hq183 (show (9 : Nat) ≠ 0 by decide))
              refine th_iald hx hb hK hA194 0 rfl (iv_in (X := v8.toInt) rfl (by omega) (by omega)) dX7_priceAt_144 (fun v195 _ => ?_)
              refine lv_iconst (v := 1) hx hb dX7_priceAt_145 (by decide) ?_
              refine lv_isub hx hb dX7_priceAt_146 ?_
              refine lv_topi (fun v196 e197 => ?_)
              try have tv196 : v196.toInt = v195.toInt - (1) := iv_sub rfl (by decide) e197 (by omega) (by omega)
              have hI := th_I.close hI hG0 hO (ok_9 hq177 hq179 hq181 hq183 hq185 hq187)
              have hpost : True := trivial
              rw [hQ]
              exact W.iret (v := v196) hx hb hr (fun t ht hW => ⟨⟨v196, (), rfl, hpost, by rw [ht]; exact hI, hN.warm hW, va_K.moved hW.alike hK⟩, hS.F ht⟩) hS.2.2 dX7_priceAt_147
            · skip
              have k198 := iv_eq (X := r171.toInt) (Y := (-2000000000)) rfl (by decide) c174
              refine lv_iconst (v := 0) hx hb dX7_priceAt_108 (by decide) ?_
              refine lv_goto (tgt := 115) hx hb dX7_priceAt_109 (by decide) ?_
              refine lv_istore (lv' := [(7, .int 0), (6, .int 1), (5, .int r85), (4, .ref a24), (3, .int v8), (0, .ref h0), (1, .int x1), (2, .int x2)]) hx hb dX7_priceAt_115 hl (by decide) rfl (fun ls hl => ?_)
              refine lv_aload_n hx hb dX7_priceAt_117 rfl (lv_at hl 5 rfl) ?_
              obtain ⟨a199, a201, a203, a205, a207, a209, w211, hO, hq200, hq202, hq204, hq206, hq208, hq210⟩ := op_9 hI hG0 List.not_mem_nil
              have hI := th_I.weak (a := h0) hI
              refine th_get hx hb hts inT7 hown hK hO rfl 3 (by decide) (hts _ (tb_c wd_192)) rfl rfl dX7_priceAt_118 ?_
              refine lv_iload_n hx hb dX7_priceAt_121 rfl (lv_at hl 4 rfl) ?_
              refine lv_iconst (v := 1) hx hb dX7_priceAt_122 (by decide) ?_
              refine lv_iload hx hb dX7_priceAt_123 (lv_at hl 1 rfl) ?_
              refine lv_iload hx hb dX7_priceAt_125 (lv_at hl 0 rfl) ?_
              refine lv_ior hx hb dX7_priceAt_127 ?_
              refine lv_topi (fun v212 e213 => ?_)
              refine lv_iadd hx hb dX7_priceAt_128 ?_
              refine lv_topi (fun v214 e215 => ?_)
              try have tv214 : v214.toInt = (1) + v212.toInt := iv_add (by decide) rfl e215 (by omega) (by omega)
              obtain ⟨_, hA216⟩ := op_0 hI hq206 (th_ne hG0 hq206 (show (9 : Nat) ≠ 0 by decide))
              refine th_iast hx hb hK hA216 0 rfl hS ⟨_, hq206⟩ (iv_in (X := v8.toInt) rfl (by omega) (by omega)) dX7_priceAt_129 (fun H locs hA216 oq hS => ?_)
              have hI := th_I.put hI hq206 hA216 ok_0 oq
              have hO := hO.kept (oq _ (fun z => th_ne hG0 hq206 (show (9 : Nat) ≠ 0 by decide) (List.mem_singleton.mpr z.symm)))
              refine lv_aload hx hb dX7_priceAt_130 (lv_at hl 3 rfl) ?_
              refine lv_ifnonnull (tgt := 139) hx hb dX7_priceAt_132 (by decide) ?_
              refine lv_aload_n hx hb dX7_priceAt_139 rfl (lv_at hl 5 rfl) ?_
              refine th_get hx hb hts inT7 hown hK hO rfl 3 (by decide) (hts _ (tb_c wd_192)) rfl rfl dX7_priceAt_140 ?_
              refine lv_iload_n hx hb dX7_priceAt_143 rfl (lv_at hl 4 rfl) ?_
              obtain ⟨_, hA217⟩ := op_0 hI hq206 (th_ne hG0 hq206 (show (9 : Nat) ≠ 0 by decide))
              refine th_iald hx hb hK hA217 0 rfl (iv_in (X := v8.toInt) rfl (by omega) (by omega)) dX7_priceAt_144 (fun v218 _ => ?_)
              refine lv_iconst (v := 1) hx hb dX7_priceAt_145 (by decide) ?_
              refine lv_isub hx hb dX7_priceAt_146 ?_
              refine lv_topi (fun v219 e220 => ?_)
              try have tv219 : v219.toInt = v218.toInt - (1) := iv_sub rfl (by decide) e220 (by omega) (by omega)
              have hI := th_I.close hI hG0 hO (ok_9 hq200 hq202 hq204 hq206 hq208 hq210)
              have hpost : True := trivial
              rw [hQ]
              exact W.iret (v := v219) hx hb hr (fun t ht hW => ⟨⟨v219, (), rfl, hpost, by rw [ht]; exact hI, hN.warm hW, va_K.moved hW.alike hK⟩, hS.F ht⟩) hS.2.2 dX7_priceAt_147
    · skip
      try simp only [rg, not_and, Int.not_le] at hp
      have hp221 := hp
      refine lv_if_ne (tgt := 16) hx hb dX7_priceAt_11 (by decide) (fun c => absurd c (by decide)) (fun _ => ?_)
      refine lv_iconst (v := 0) hx hb dX7_priceAt_14 (by decide) ?_
      have hpost : True := trivial
      rw [hQ]
      exact W.iret (v := 0) hx hb hr (fun t ht hW => ⟨⟨0, (), rfl, hpost, by rw [ht]; exact hI, hN.warm hW, va_K.moved hW.alike hK⟩, hS.F ht⟩) hS.2.2 dX7_priceAt_15
  · skip
    try simp only [rg, not_and, Int.not_le] at hp
    have hp222 := hp
    refine lv_if_eq (tgt := 14) hx hb dX7_priceAt_4 (by decide) (fun _ => ?_) (fun c => absurd c (by decide))
    refine lv_iconst (v := 0) hx hb dX7_priceAt_14 (by decide) ?_
    have hpost : True := trivial
    rw [hQ]
    exact W.iret (v := 0) hx hb hr (fun t ht hW => ⟨⟨0, (), rfl, hpost, by rw [ht]; exact hI, hN.warm hW, va_K.moved hW.alike hK⟩, hS.F ht⟩) hS.2.2 dX7_priceAt_15
theorem dX7_costAt_0g : (decode cX7_costAt 0 = .ok (.aload_n 0, 1)) ∧ (decode cX7_costAt 1 = .ok (.iload_n 1, 1)) ∧ (decode cX7_costAt 2 = .ok (.iload_n 2, 1)) ∧ (decode cX7_costAt 3 = .ok (.invokevirtual 73, 3)) ∧ (decode cX7_costAt 6 = .ok (.sipush 1023, 3)) ∧ (decode cX7_costAt 9 = .ok (.iand, 1)) ∧ (decode cX7_costAt 10 = .ok (.ireturn, 1)) := by decide +kernel
theorem dX7_costAt_0 : decode cX7_costAt 0 = .ok (.aload_n 0, 1) := dX7_costAt_0g.1
theorem dX7_costAt_1 : decode cX7_costAt 1 = .ok (.iload_n 1, 1) := dX7_costAt_0g.2.1
theorem dX7_costAt_2 : decode cX7_costAt 2 = .ok (.iload_n 2, 1) := dX7_costAt_0g.2.2.1
theorem dX7_costAt_3 : decode cX7_costAt 3 = .ok (.invokevirtual 73, 3) := dX7_costAt_0g.2.2.2.1
theorem dX7_costAt_6 : decode cX7_costAt 6 = .ok (.sipush 1023, 3) := dX7_costAt_0g.2.2.2.2.1
theorem dX7_costAt_9 : decode cX7_costAt 9 = .ok (.iand, 1) := dX7_costAt_0g.2.2.2.2.2.1
theorem dX7_costAt_10 : decode cX7_costAt 10 = .ok (.ireturn, 1) := dX7_costAt_0g.2.2.2.2.2.2
set_option maxHeartbeats 4000000 in
set_option maxRecDepth 100000 in
theorem c_X7_costAt (l : Launch) (E : Nat → Nat) (D : va_G) (G : th_G) (h0 : Nat) (hG0 : G h0 = some (9, 0)) (x1 x2 : Int32) : Met l yX7_costAt (tb (.code yX7_costAt cX7_costAt 3 (some .int))) (rm 5) (va_Pc [.ref h0, .int x1, .int x2] (th_P E D G)) (QI E D G (fun r => True)) 0 0 (th_A G) := by
  refine Met.ofW (cc := cX7_costAt) (maxL := 3) (ret := (some .int)) (by decide) rfl ?_
  intro p e s m args below meth c s₁ B hml hv
  obtain ⟨hav, hI, hN, hK⟩ := hv
  have hx := B.exec
  have hb := B.bytes
  have hr := B.returns
  have hts := atoms_spec (ws := tb (.code yX7_costAt cX7_costAt 3 (some .int))) B.pre
  have hown : s.vm.findClass RX7 = some m.cls := findClass_of_methodNamed B.named
  have hlocks := B.notSynchronized
  have hS : va_S (th_A G) s.heap s.heap [] := va_S.rf
  have hl := lv_entry ([.ref h0, .int x1, .int x2]) (n := 3) (Nat.le_of_ble_eq_true rfl)
  rw [show entryFrame m args 3 = entryFrame m ([.ref h0, .int x1, .int x2] : List Value).toArray 3 from by rw [hav], lg_entry_eq]
  generalize (lg_sl ([.ref h0, .int x1, .int x2]) ++ List.replicate (3 - (lg_sl ([.ref h0, .int x1, .int x2])).length) Slot.unset).toArray = ls at hl ⊢
  have hl : lv_has ls 3 [(0, .ref h0), (1, .int x1), (2, .int x2)] := hl
  generalize hR : (headSpec (tb (.code yX7_costAt cX7_costAt 3 (some .int))) (rm 5)).room = R
  have hR := hR.symm
  generalize hQ : MQ below (QI E D G (fun r => True)) args s 0 0 (th_A G) = QF
  have hQ := hQ.symm
  refine lv_aload_n hx hb dX7_costAt_0 rfl (lv_at hl 0 rfl) ?_
  refine lv_iload_n hx hb dX7_costAt_1 rfl (lv_at hl 1 rfl) ?_
  refine lv_iload_n hx hb dX7_costAt_2 rfl (lv_at hl 2 rfl) ?_
  refine th_cVi (As := [.int x1, .int x2]) (rest := []) (n := 2) (d := 4) ⟨hx, hb, hml, hown, hts⟩ (c_X7_priceAt l E D G h0 hG0 x1 x2) wd_627 wd_628 wd_629 wd_6 wd_630 (by decide +kernel) ⟨by rw [hR]; exact Nat.le_of_ble_eq_true rfl, by rw [hR]; exact Nat.le_of_ble_eq_true rfl⟩ hI hN hK hS (rc_9 hI hG0 List.not_mem_nil) rfl rfl hl.1 rfl (Nat.le_of_ble_eq_true rfl) dX7_costAt_3 ⟨Nat.zero_le _, Nat.zero_le _⟩ (fun r1 H locs hp hI hS => ?_)
  refine lv_sipush (v := 1023) hx hb dX7_costAt_6 (by decide) ?_
  refine lv_iand hx hb dX7_costAt_9 ?_
  refine lv_topi (fun v2 e3 => ?_)
  have tv2 := iv_andr (m := 1023) (M := 1023) e3 (by decide) (by decide)
  have hpost : True := trivial
  rw [hQ]
  exact W.iret (v := v2) hx hb hr (fun t ht hW => ⟨⟨v2, (), rfl, hpost, by rw [ht]; exact hI, hN.warm hW, va_K.moved hW.alike hK⟩, hS.F ht⟩) hS.2.2 dX7_costAt_10
theorem dX7_isBarred_0g : (decode cX7_isBarred 0 = .ok (.aload_n 0, 1)) ∧ (decode cX7_isBarred 1 = .ok (.iload_n 1, 1)) ∧ (decode cX7_isBarred 2 = .ok (.iload_n 2, 1)) ∧ (decode cX7_isBarred 3 = .ok (.invokevirtual 73, 3)) ∧ (decode cX7_isBarred 6 = .ok (.sipush 1024, 3)) ∧ (decode cX7_isBarred 9 = .ok (.if_icmp .lt 7, 3)) ∧ (decode cX7_isBarred 12 = .ok (.iconst 1, 1)) ∧ (decode cX7_isBarred 13 = .ok (.goto 4, 3)) ∧ (decode cX7_isBarred 16 = .ok (.iconst 0, 1)) ∧ (decode cX7_isBarred 17 = .ok (.ireturn, 1)) := by decide +kernel
theorem dX7_isBarred_0 : decode cX7_isBarred 0 = .ok (.aload_n 0, 1) := dX7_isBarred_0g.1
theorem dX7_isBarred_1 : decode cX7_isBarred 1 = .ok (.iload_n 1, 1) := dX7_isBarred_0g.2.1
theorem dX7_isBarred_2 : decode cX7_isBarred 2 = .ok (.iload_n 2, 1) := dX7_isBarred_0g.2.2.1
theorem dX7_isBarred_3 : decode cX7_isBarred 3 = .ok (.invokevirtual 73, 3) := dX7_isBarred_0g.2.2.2.1
theorem dX7_isBarred_6 : decode cX7_isBarred 6 = .ok (.sipush 1024, 3) := dX7_isBarred_0g.2.2.2.2.1
theorem dX7_isBarred_9 : decode cX7_isBarred 9 = .ok (.if_icmp .lt 7, 3) := dX7_isBarred_0g.2.2.2.2.2.1
theorem dX7_isBarred_12 : decode cX7_isBarred 12 = .ok (.iconst 1, 1) := dX7_isBarred_0g.2.2.2.2.2.2.1
theorem dX7_isBarred_13 : decode cX7_isBarred 13 = .ok (.goto 4, 3) := dX7_isBarred_0g.2.2.2.2.2.2.2.1
theorem dX7_isBarred_16 : decode cX7_isBarred 16 = .ok (.iconst 0, 1) := dX7_isBarred_0g.2.2.2.2.2.2.2.2.1
theorem dX7_isBarred_17 : decode cX7_isBarred 17 = .ok (.ireturn, 1) := dX7_isBarred_0g.2.2.2.2.2.2.2.2.2
set_option maxHeartbeats 4000000 in
set_option maxRecDepth 100000 in
theorem c_X7_isBarred (l : Launch) (E : Nat → Nat) (D : va_G) (G : th_G) (h0 : Nat) (hG0 : G h0 = some (9, 0)) (x1 x2 : Int32) : Met l yX7_isBarred (tb (.code yX7_isBarred cX7_isBarred 3 (some .boolean))) (rm 5) (va_Pc [.ref h0, .int x1, .int x2] (th_P E D G)) (QI E D G (fun r => 0 ≤ (r : Int32).toInt ∧ (r : Int32).toInt ≤ 1)) 0 0 (th_A G) := by
  refine Met.ofW (cc := cX7_isBarred) (maxL := 3) (ret := (some .boolean)) (by decide) rfl ?_
  intro p e s m args below meth c s₁ B hml hv
  obtain ⟨hav, hI, hN, hK⟩ := hv
  have hx := B.exec
  have hb := B.bytes
  have hr := B.returns
  have hts := atoms_spec (ws := tb (.code yX7_isBarred cX7_isBarred 3 (some .boolean))) B.pre
  have hown : s.vm.findClass RX7 = some m.cls := findClass_of_methodNamed B.named
  have hlocks := B.notSynchronized
  have hS : va_S (th_A G) s.heap s.heap [] := va_S.rf
  have hl := lv_entry ([.ref h0, .int x1, .int x2]) (n := 3) (Nat.le_of_ble_eq_true rfl)
  rw [show entryFrame m args 3 = entryFrame m ([.ref h0, .int x1, .int x2] : List Value).toArray 3 from by rw [hav], lg_entry_eq]
  generalize (lg_sl ([.ref h0, .int x1, .int x2]) ++ List.replicate (3 - (lg_sl ([.ref h0, .int x1, .int x2])).length) Slot.unset).toArray = ls at hl ⊢
  have hl : lv_has ls 3 [(0, .ref h0), (1, .int x1), (2, .int x2)] := hl
  generalize hR : (headSpec (tb (.code yX7_isBarred cX7_isBarred 3 (some .boolean))) (rm 5)).room = R
  have hR := hR.symm
  generalize hQ : MQ below (QI E D G (fun r => 0 ≤ (r : Int32).toInt ∧ (r : Int32).toInt ≤ 1)) args s 0 0 (th_A G) = QF
  have hQ := hQ.symm
  refine lv_aload_n hx hb dX7_isBarred_0 rfl (lv_at hl 0 rfl) ?_
  refine lv_iload_n hx hb dX7_isBarred_1 rfl (lv_at hl 1 rfl) ?_
  refine lv_iload_n hx hb dX7_isBarred_2 rfl (lv_at hl 2 rfl) ?_
  refine th_cVi (As := [.int x1, .int x2]) (rest := []) (n := 2) (d := 4) ⟨hx, hb, hml, hown, hts⟩ (c_X7_priceAt l E D G h0 hG0 x1 x2) wd_627 wd_628 wd_629 wd_6 wd_630 (by decide +kernel) ⟨by rw [hR]; exact Nat.le_of_ble_eq_true rfl, by rw [hR]; exact Nat.le_of_ble_eq_true rfl⟩ hI hN hK hS (rc_9 hI hG0 List.not_mem_nil) rfl rfl hl.1 rfl (Nat.le_of_ble_eq_true rfl) dX7_isBarred_3 ⟨Nat.zero_le _, Nat.zero_le _⟩ (fun r1 H locs hp hI hS => ?_)
  refine lv_sipush (v := 1024) hx hb dX7_isBarred_6 (by decide) ?_
  have k2 := iv_lo r1
  have k3 := iv_hi r1
  refine lv_icmp_lt (tgt := 16) hx hb dX7_isBarred_9 (by decide) (fun c4 => ?_) (fun c4 => ?_)
  · skip
    have k5 := iv_lt (X := r1.toInt) (Y := (1024)) rfl (by decide) c4
    refine lv_iconst (v := 0) hx hb dX7_isBarred_16 (by decide) ?_
    have hpost : 0 ≤ (0 : Int32).toInt ∧ (0 : Int32).toInt ≤ 1 := by first | decide | omega
    rw [hQ]
    exact W.zret (v := 0) hx hb hr (by decide) (fun t ht hW => ⟨⟨0, (), rfl, hpost, by rw [ht]; exact hI, hN.warm hW, va_K.moved hW.alike hK⟩, hS.F ht⟩) hS.2.2 dX7_isBarred_17
  · skip
    have k6 := iv_nlt (X := r1.toInt) (Y := (1024)) rfl (by decide) c4
    refine lv_iconst (v := 1) hx hb dX7_isBarred_12 (by decide) ?_
    refine lv_goto (tgt := 17) hx hb dX7_isBarred_13 (by decide) ?_
    have hpost : 0 ≤ (1 : Int32).toInt ∧ (1 : Int32).toInt ≤ 1 := by first | decide | omega
    rw [hQ]
    exact W.zret (v := 1) hx hb hr (by decide) (fun t ht hW => ⟨⟨1, (), rfl, hpost, by rw [ht]; exact hI, hN.warm hW, va_K.moved hW.alike hK⟩, hS.F ht⟩) hS.2.2 dX7_isBarred_17
theorem dX7_tollAt_0g : (decode cX7_tollAt 0 = .ok (.aload_n 0, 1)) ∧ (decode cX7_tollAt 1 = .ok (.getfield 35, 3)) ∧ (decode cX7_tollAt 4 = .ok (.invokevirtual 76, 3)) ∧ (decode cX7_tollAt 7 = .ok (.astore 4, 2)) ∧ (decode cX7_tollAt 9 = .ok (.aload 4, 2)) ∧ (decode cX7_tollAt 11 = .ok (.ifnonnull 5, 3)) ∧ (decode cX7_tollAt 14 = .ok (.iconst 0, 1)) ∧ (decode cX7_tollAt 15 = .ok (.ireturn, 1)) ∧ (decode cX7_tollAt 16 = .ok (.aload_n 0, 1)) ∧ (decode cX7_tollAt 17 = .ok (.iload_n 1, 1)) := by decide +kernel
theorem dX7_tollAt_0 : decode cX7_tollAt 0 = .ok (.aload_n 0, 1) := dX7_tollAt_0g.1
theorem dX7_tollAt_1 : decode cX7_tollAt 1 = .ok (.getfield 35, 3) := dX7_tollAt_0g.2.1
theorem dX7_tollAt_4 : decode cX7_tollAt 4 = .ok (.invokevirtual 76, 3) := dX7_tollAt_0g.2.2.1
theorem dX7_tollAt_7 : decode cX7_tollAt 7 = .ok (.astore 4, 2) := dX7_tollAt_0g.2.2.2.1
theorem dX7_tollAt_9 : decode cX7_tollAt 9 = .ok (.aload 4, 2) := dX7_tollAt_0g.2.2.2.2.1
theorem dX7_tollAt_11 : decode cX7_tollAt 11 = .ok (.ifnonnull 5, 3) := dX7_tollAt_0g.2.2.2.2.2.1
theorem dX7_tollAt_14 : decode cX7_tollAt 14 = .ok (.iconst 0, 1) := dX7_tollAt_0g.2.2.2.2.2.2.1
theorem dX7_tollAt_15 : decode cX7_tollAt 15 = .ok (.ireturn, 1) := dX7_tollAt_0g.2.2.2.2.2.2.2.1
theorem dX7_tollAt_16 : decode cX7_tollAt 16 = .ok (.aload_n 0, 1) := dX7_tollAt_0g.2.2.2.2.2.2.2.2.1
theorem dX7_tollAt_17 : decode cX7_tollAt 17 = .ok (.iload_n 1, 1) := dX7_tollAt_0g.2.2.2.2.2.2.2.2.2
theorem dX7_tollAt_18g : (decode cX7_tollAt 18 = .ok (.iload_n 2, 1)) ∧ (decode cX7_tollAt 19 = .ok (.invokevirtual 80, 3)) ∧ (decode cX7_tollAt 22 = .ok (.aload_n 0, 1)) ∧ (decode cX7_tollAt 23 = .ok (.getfield 12, 3)) ∧ (decode cX7_tollAt 26 = .ok (.iload_n 3, 1)) ∧ (decode cX7_tollAt 27 = .ok (.invokevirtual 99, 3)) ∧ (decode cX7_tollAt 30 = .ok (.aload_n 0, 1)) ∧ (decode cX7_tollAt 31 = .ok (.getfield 12, 3)) ∧ (decode cX7_tollAt 34 = .ok (.aload 4, 2)) ∧ (decode cX7_tollAt 36 = .ok (.iconst 2, 1)) := by decide +kernel
theorem dX7_tollAt_18 : decode cX7_tollAt 18 = .ok (.iload_n 2, 1) := dX7_tollAt_18g.1
theorem dX7_tollAt_19 : decode cX7_tollAt 19 = .ok (.invokevirtual 80, 3) := dX7_tollAt_18g.2.1
theorem dX7_tollAt_22 : decode cX7_tollAt 22 = .ok (.aload_n 0, 1) := dX7_tollAt_18g.2.2.1
theorem dX7_tollAt_23 : decode cX7_tollAt 23 = .ok (.getfield 12, 3) := dX7_tollAt_18g.2.2.2.1
theorem dX7_tollAt_26 : decode cX7_tollAt 26 = .ok (.iload_n 3, 1) := dX7_tollAt_18g.2.2.2.2.1
theorem dX7_tollAt_27 : decode cX7_tollAt 27 = .ok (.invokevirtual 99, 3) := dX7_tollAt_18g.2.2.2.2.2.1
theorem dX7_tollAt_30 : decode cX7_tollAt 30 = .ok (.aload_n 0, 1) := dX7_tollAt_18g.2.2.2.2.2.2.1
theorem dX7_tollAt_31 : decode cX7_tollAt 31 = .ok (.getfield 12, 3) := dX7_tollAt_18g.2.2.2.2.2.2.2.1
theorem dX7_tollAt_34 : decode cX7_tollAt 34 = .ok (.aload 4, 2) := dX7_tollAt_18g.2.2.2.2.2.2.2.2.1
theorem dX7_tollAt_36 : decode cX7_tollAt 36 = .ok (.iconst 2, 1) := dX7_tollAt_18g.2.2.2.2.2.2.2.2.2
theorem dX7_tollAt_37g : (decode cX7_tollAt 37 = .ok (.invokevirtual 86, 3)) ∧ (decode cX7_tollAt 40 = .ok (.istore 5, 2)) ∧ (decode cX7_tollAt 42 = .ok (.iload 5, 2)) ∧ (decode cX7_tollAt 44 = .ok (.ldc 90, 2)) ∧ (decode cX7_tollAt 46 = .ok (.if_icmp .ne 7, 3)) ∧ (decode cX7_tollAt 49 = .ok (.iconst 0, 1)) ∧ (decode cX7_tollAt 50 = .ok (.goto 14, 3)) ∧ (decode cX7_tollAt 53 = .ok (.iconst 0, 1)) ∧ (decode cX7_tollAt 54 = .ok (.iload 5, 2)) ∧ (decode cX7_tollAt 56 = .ok (.bipush 99, 2)) := by decide +kernel
theorem dX7_tollAt_37 : decode cX7_tollAt 37 = .ok (.invokevirtual 86, 3) := dX7_tollAt_37g.1
theorem dX7_tollAt_40 : decode cX7_tollAt 40 = .ok (.istore 5, 2) := dX7_tollAt_37g.2.1
theorem dX7_tollAt_42 : decode cX7_tollAt 42 = .ok (.iload 5, 2) := dX7_tollAt_37g.2.2.1
theorem dX7_tollAt_44 : decode cX7_tollAt 44 = .ok (.ldc 90, 2) := dX7_tollAt_37g.2.2.2.1
theorem dX7_tollAt_46 : decode cX7_tollAt 46 = .ok (.if_icmp .ne 7, 3) := dX7_tollAt_37g.2.2.2.2.1
theorem dX7_tollAt_49 : decode cX7_tollAt 49 = .ok (.iconst 0, 1) := dX7_tollAt_37g.2.2.2.2.2.1
theorem dX7_tollAt_50 : decode cX7_tollAt 50 = .ok (.goto 14, 3) := dX7_tollAt_37g.2.2.2.2.2.2.1
theorem dX7_tollAt_53 : decode cX7_tollAt 53 = .ok (.iconst 0, 1) := dX7_tollAt_37g.2.2.2.2.2.2.2.1
theorem dX7_tollAt_54 : decode cX7_tollAt 54 = .ok (.iload 5, 2) := dX7_tollAt_37g.2.2.2.2.2.2.2.2.1
theorem dX7_tollAt_56 : decode cX7_tollAt 56 = .ok (.bipush 99, 2) := dX7_tollAt_37g.2.2.2.2.2.2.2.2.2
theorem dX7_tollAt_58g : (decode cX7_tollAt 58 = .ok (.invokestatic 91, 3)) ∧ (decode cX7_tollAt 61 = .ok (.invokestatic 96, 3)) ∧ (decode cX7_tollAt 64 = .ok (.ireturn, 1)) := by decide +kernel
theorem dX7_tollAt_58 : decode cX7_tollAt 58 = .ok (.invokestatic 91, 3) := dX7_tollAt_58g.1
theorem dX7_tollAt_61 : decode cX7_tollAt 61 = .ok (.invokestatic 96, 3) := dX7_tollAt_58g.2.1
theorem dX7_tollAt_64 : decode cX7_tollAt 64 = .ok (.ireturn, 1) := dX7_tollAt_58g.2.2
set_option maxHeartbeats 4000000 in
set_option maxRecDepth 100000 in
theorem c_X7_tollAt (l : Launch) (E : Nat → Nat) (D : va_G) (G : th_G) (h0 : Nat) (hG0 : G h0 = some (9, 0)) (x1 x2 x3 : Int32) : Met l yX7_tollAt (tb (.code yX7_tollAt cX7_tollAt 6 (some .int))) (rm 4) (va_Pc [.ref h0, .int x1, .int x2, .int x3] (th_P E D G)) (QI E D G (fun r => True)) 0 0 (th_A G) := by
  refine Met.ofW (cc := cX7_tollAt) (maxL := 6) (ret := (some .int)) (by decide) rfl ?_
  intro p e s m args below meth c s₁ B hml hv
  obtain ⟨hav, hI, hN, hK⟩ := hv
  have hx := B.exec
  have hb := B.bytes
  have hr := B.returns
  have hts := atoms_spec (ws := tb (.code yX7_tollAt cX7_tollAt 6 (some .int))) B.pre
  have hown : s.vm.findClass RX7 = some m.cls := findClass_of_methodNamed B.named
  have hlocks := B.notSynchronized
  have hS : va_S (th_A G) s.heap s.heap [] := va_S.rf
  have hl := lv_entry ([.ref h0, .int x1, .int x2, .int x3]) (n := 6) (Nat.le_of_ble_eq_true rfl)
  rw [show entryFrame m args 6 = entryFrame m ([.ref h0, .int x1, .int x2, .int x3] : List Value).toArray 6 from by rw [hav], lg_entry_eq]
  generalize (lg_sl ([.ref h0, .int x1, .int x2, .int x3]) ++ List.replicate (6 - (lg_sl ([.ref h0, .int x1, .int x2, .int x3])).length) Slot.unset).toArray = ls at hl ⊢
  have hl : lv_has ls 6 [(0, .ref h0), (1, .int x1), (2, .int x2), (3, .int x3)] := hl
  generalize hR : (headSpec (tb (.code yX7_tollAt cX7_tollAt 6 (some .int))) (rm 4)).room = R
  have hR := hR.symm
  generalize hQ : MQ below (QI E D G (fun r => True)) args s 0 0 (th_A G) = QF
  have hQ := hQ.symm
  refine lv_aload_n hx hb dX7_tollAt_0 rfl (lv_at hl 0 rfl) ?_
  obtain ⟨a1, a3, a5, a7, a9, a11, w13, hO, hq2, hq4, hq6, hq8, hq10, hq12⟩ := op_9 hI hG0 List.not_mem_nil
  have hI := th_I.weak (a := h0) hI
  refine th_get hx hb hts inT7 hown hK hO rfl 0 (by decide) (hts _ (tb_c wd_189)) rfl rfl dX7_tollAt_1 ?_
  have hI := th_I.close hI hG0 hO (ok_9 hq2 hq4 hq6 hq8 hq10 hq12)
  refine th_cVq (As := []) (rest := []) (n := 0) (d := 0) ⟨hx, hb, hml, hown, hts⟩ (c_X6_lawInForce l E D G a1 hq2 ) wd_562 wd_563 wd_564 wd_2 wd_565 (by decide +kernel) ⟨by rw [hR]; exact Nat.le_of_ble_eq_true rfl, by rw [hR]; exact Nat.le_of_ble_eq_true rfl⟩ hI hN hK hS (rc_6 hI hq2 List.not_mem_nil) rfl rfl hl.1 rfl (Nat.le_of_ble_eq_true rfl) dX7_tollAt_4 ⟨Nat.zero_le _, Nat.zero_le _⟩ (fun r14 H locs hp hI hS => ?_)
  obtain _ | a15 := r14
  · skip
    refine lv_astoreN (lv' := [(4, .null), (0, .ref h0), (1, .int x1), (2, .int x2), (3, .int x3)]) hx hb dX7_tollAt_7 hl (by decide) rfl (fun ls hl => ?_)
    refine lv_aloadN hx hb dX7_tollAt_9 (lv_at hl 0 rfl) ?_
    refine lv_ifnonnullN hx hb dX7_tollAt_11 ?_
    refine lv_iconst (v := 0) hx hb dX7_tollAt_14 (by decide) ?_
    have hpost : True := trivial
    rw [hQ]
    exact W.iret (v := 0) hx hb hr (fun t ht hW => ⟨⟨0, (), rfl, hpost, by rw [ht]; exact hI, hN.warm hW, va_K.moved hW.alike hK⟩, hS.F ht⟩) hS.2.2 dX7_tollAt_15
  · skip
    obtain ⟨m17, hq16⟩ := hp _ rfl
    refine lv_astore (lv' := [(4, .ref a15), (0, .ref h0), (1, .int x1), (2, .int x2), (3, .int x3)]) hx hb dX7_tollAt_7 hl (by decide) rfl (fun ls hl => ?_)
    refine lv_aload hx hb dX7_tollAt_9 (lv_at hl 0 rfl) ?_
    refine lv_ifnonnull (tgt := 16) hx hb dX7_tollAt_11 (by decide) ?_
    refine lv_aload_n hx hb dX7_tollAt_16 rfl (lv_at hl 1 rfl) ?_
    refine lv_iload_n hx hb dX7_tollAt_17 rfl (lv_at hl 2 rfl) ?_
    refine lv_iload_n hx hb dX7_tollAt_18 rfl (lv_at hl 3 rfl) ?_
    refine th_cVv (As := [.int x1, .int x2]) (rest := []) (n := 2) (d := 3) ⟨hx, hb, hml, hown, hts⟩ (c_X7_askAbout l E D G h0 hG0 x1 x2) wd_631 wd_633 wp_10 wd_6 wd_634 (by decide +kernel) ⟨by rw [hR]; exact Nat.le_of_ble_eq_true rfl, by rw [hR]; exact Nat.le_of_ble_eq_true rfl⟩ hI hN hK hS (rc_9 hI hG0 List.not_mem_nil) rfl rfl hl.1 rfl (Nat.le_of_ble_eq_true rfl) dX7_tollAt_19 ⟨Nat.zero_le _, Nat.zero_le _⟩ (fun H locs hI hS => ?_)
    refine lv_aload_n hx hb dX7_tollAt_22 rfl (lv_at hl 1 rfl) ?_
    obtain ⟨a19, a21, a23, a25, a27, a29, w31, hO, hq20, hq22, hq24, hq26, hq28, hq30⟩ := op_9 hI hG0 List.not_mem_nil
    have hI := th_I.weak (a := h0) hI
    refine th_get hx hb hts inT7 hown hK hO rfl 1 (by decide) (hts _ (tb_c wd_190)) rfl rfl dX7_tollAt_23 ?_
    refine lv_iload_n hx hb dX7_tollAt_26 rfl (lv_at hl 4 rfl) ?_
    have hI := th_I.close hI hG0 hO (ok_9 hq20 hq22 hq24 hq26 hq28 hq30)
    refine th_cVv (As := [.int x3]) (rest := []) (n := 1) (d := 0) ⟨hx, hb, hml, hown, hts⟩ (c_X0_going l E D G a21 hq22 x3) wd_818 wd_819 wd_820 wd_7 wd_821 (by decide +kernel) ⟨by rw [hR]; exact Nat.le_of_ble_eq_true rfl, by rw [hR]; exact Nat.le_of_ble_eq_true rfl⟩ hI hN hK hS (rc_8 hI hq22 List.not_mem_nil) rfl rfl hl.1 rfl (Nat.le_of_ble_eq_true rfl) dX7_tollAt_27 ⟨Nat.zero_le _, Nat.zero_le _⟩ (fun H locs hI hS => ?_)
    refine lv_aload_n hx hb dX7_tollAt_30 rfl (lv_at hl 1 rfl) ?_
    obtain ⟨a33, a35, a37, a39, a41, a43, w45, hO, hq34, hq36, hq38, hq40, hq42, hq44⟩ := op_9 hI hG0 List.not_mem_nil
    have hI := th_I.weak (a := h0) hI
    refine th_get hx hb hts inT7 hown hK hO rfl 1 (by decide) (hts _ (tb_c wd_190)) rfl rfl dX7_tollAt_31 ?_
    refine lv_aload hx hb dX7_tollAt_34 (lv_at hl 0 rfl) ?_
    refine lv_iconst (v := 2) hx hb dX7_tollAt_36 (by decide) ?_
    have hI := th_I.close hI hG0 hO (ok_9 hq34 hq36 hq38 hq40 hq42 hq44)
    refine th_cVi (As := [.ref a15, .int 2]) (rest := []) (n := 2) (d := 1) ⟨hx, hb, hml, hown, hts⟩ (c_X0_tells l E D G a35 hq36 a15 (m17) hq16 2) wd_571 wd_572 wd_573 wd_7 wd_574 (by decide +kernel) ⟨by rw [hR]; exact Nat.le_of_ble_eq_true rfl, by rw [hR]; exact Nat.le_of_ble_eq_true rfl⟩ hI hN hK hS (rc_8 hI hq36 List.not_mem_nil) rfl rfl hl.1 rfl (Nat.le_of_ble_eq_true rfl) dX7_tollAt_37 ⟨Nat.zero_le _, Nat.zero_le _⟩ (fun r46 H locs hp hI hS => ?_)
    refine lv_istore (lv' := [(5, .int r46), (4, .ref a15), (0, .ref h0), (1, .int x1), (2, .int x2), (3, .int x3)]) hx hb dX7_tollAt_40 hl (by decide) rfl (fun ls hl => ?_)
    refine lv_iload hx hb dX7_tollAt_42 (lv_at hl 0 rfl) ?_
    refine lv_ldc hx hb hown (hts _ (tb_c wd_566)) dX7_tollAt_44 ?_
    have k47 := iv_lo r46
    have k48 := iv_hi r46
    refine lv_icmp_ne (tgt := 53) hx hb dX7_tollAt_46 (by decide) (fun c49 => ?_) (fun c49 => ?_)
    · skip
      have k50 := iv_ne (X := r46.toInt) (Y := (-2000000000)) rfl (by decide) c49
      refine lv_iconst (v := 0) hx hb dX7_tollAt_53 (by decide) ?_
      refine lv_iload hx hb dX7_tollAt_54 (lv_at hl 0 rfl) ?_
      refine lv_bipush (v := 99) hx hb dX7_tollAt_56 (by decide) ?_
      refine va_mmin hx hb (hml.trans hl.1.symm) hown (hts _ (tb_c wd_582)) (hts _ (tb_c wd_583)) (hts _ (tb_c wd_4)) (hts _ (tb_c wd_584)) (by rw [hR]; exact Nat.le_of_ble_eq_true rfl) (by rw [hR]; exact Nat.le_of_ble_eq_true rfl) (Nat.zero_le _) (Nat.zero_le _) dX7_tollAt_58 ?_
      refine lv_topi (fun v51 e52 => ?_)
      have tv51 := iv_min e52
      rw [show (99 : Int32).toInt = 99 from by decide] at tv51
      refine va_mmax hx hb (hml.trans hl.1.symm) hown (hts _ (tb_c wd_585)) (hts _ (tb_c wd_43)) (hts _ (tb_c wd_4)) (hts _ (tb_c wd_44)) (by rw [hR]; exact Nat.le_of_ble_eq_true rfl) (by rw [hR]; exact Nat.le_of_ble_eq_true rfl) (Nat.zero_le _) (Nat.zero_le _) dX7_tollAt_61 ?_
      refine lv_topi (fun v53 e54 => ?_)
      have tv53 := iv_max e54
      rw [show (0 : Int32).toInt = 0 from by decide] at tv53
      have hpost : True := trivial
      rw [hQ]
      exact W.iret (v := v53) hx hb hr (fun t ht hW => ⟨⟨v53, (), rfl, hpost, by rw [ht]; exact hI, hN.warm hW, va_K.moved hW.alike hK⟩, hS.F ht⟩) hS.2.2 dX7_tollAt_64
    · skip
      have k55 := iv_eq (X := r46.toInt) (Y := (-2000000000)) rfl (by decide) c49
      refine lv_iconst (v := 0) hx hb dX7_tollAt_49 (by decide) ?_
      refine lv_goto (tgt := 64) hx hb dX7_tollAt_50 (by decide) ?_
      have hpost : True := trivial
      rw [hQ]
      exact W.iret (v := 0) hx hb hr (fun t ht hW => ⟨⟨0, (), rfl, hpost, by rw [ht]; exact hI, hN.warm hW, va_K.moved hW.alike hK⟩, hS.F ht⟩) hS.2.2 dX7_tollAt_64
theorem dX7_tollsFrom_0g : (decode cX7_tollsFrom 0 = .ok (.aload_n 0, 1)) ∧ (decode cX7_tollsFrom 1 = .ok (.iload_n 1, 1)) ∧ (decode cX7_tollsFrom 2 = .ok (.iload_n 2, 1)) ∧ (decode cX7_tollsFrom 3 = .ok (.invokevirtual 39, 3)) ∧ (decode cX7_tollsFrom 6 = .ok (.istore_n 3, 1)) ∧ (decode cX7_tollsFrom 7 = .ok (.iconst 0, 1)) ∧ (decode cX7_tollsFrom 8 = .ok (.istore 4, 2)) ∧ (decode cX7_tollsFrom 10 = .ok (.iload_n 1, 1)) ∧ (decode cX7_tollsFrom 11 = .ok (.istore 5, 2)) ∧ (decode cX7_tollsFrom 13 = .ok (.iload 5, 2)) := by decide +kernel
theorem dX7_tollsFrom_0 : decode cX7_tollsFrom 0 = .ok (.aload_n 0, 1) := dX7_tollsFrom_0g.1
theorem dX7_tollsFrom_1 : decode cX7_tollsFrom 1 = .ok (.iload_n 1, 1) := dX7_tollsFrom_0g.2.1
theorem dX7_tollsFrom_2 : decode cX7_tollsFrom 2 = .ok (.iload_n 2, 1) := dX7_tollsFrom_0g.2.2.1
theorem dX7_tollsFrom_3 : decode cX7_tollsFrom 3 = .ok (.invokevirtual 39, 3) := dX7_tollsFrom_0g.2.2.2.1
theorem dX7_tollsFrom_6 : decode cX7_tollsFrom 6 = .ok (.istore_n 3, 1) := dX7_tollsFrom_0g.2.2.2.2.1
theorem dX7_tollsFrom_7 : decode cX7_tollsFrom 7 = .ok (.iconst 0, 1) := dX7_tollsFrom_0g.2.2.2.2.2.1
theorem dX7_tollsFrom_8 : decode cX7_tollsFrom 8 = .ok (.istore 4, 2) := dX7_tollsFrom_0g.2.2.2.2.2.2.1
theorem dX7_tollsFrom_10 : decode cX7_tollsFrom 10 = .ok (.iload_n 1, 1) := dX7_tollsFrom_0g.2.2.2.2.2.2.2.1
theorem dX7_tollsFrom_11 : decode cX7_tollsFrom 11 = .ok (.istore 5, 2) := dX7_tollsFrom_0g.2.2.2.2.2.2.2.2.1
theorem dX7_tollsFrom_13 : decode cX7_tollsFrom 13 = .ok (.iload 5, 2) := dX7_tollsFrom_0g.2.2.2.2.2.2.2.2.2
theorem dX7_tollsFrom_15g : (decode cX7_tollsFrom 15 = .ok (.iload_n 3, 1)) ∧ (decode cX7_tollsFrom 16 = .ok (.if_icmp .ge 22, 3)) ∧ (decode cX7_tollsFrom 19 = .ok (.iload 4, 2)) ∧ (decode cX7_tollsFrom 21 = .ok (.aload_n 0, 1)) ∧ (decode cX7_tollsFrom 22 = .ok (.iload 5, 2)) ∧ (decode cX7_tollsFrom 24 = .ok (.iload_n 2, 1)) ∧ (decode cX7_tollsFrom 25 = .ok (.iconst 1, 1)) ∧ (decode cX7_tollsFrom 26 = .ok (.invokevirtual 103, 3)) ∧ (decode cX7_tollsFrom 29 = .ok (.iadd, 1)) ∧ (decode cX7_tollsFrom 30 = .ok (.istore 4, 2)) := by decide +kernel
theorem dX7_tollsFrom_15 : decode cX7_tollsFrom 15 = .ok (.iload_n 3, 1) := dX7_tollsFrom_15g.1
theorem dX7_tollsFrom_16 : decode cX7_tollsFrom 16 = .ok (.if_icmp .ge 22, 3) := dX7_tollsFrom_15g.2.1
theorem dX7_tollsFrom_19 : decode cX7_tollsFrom 19 = .ok (.iload 4, 2) := dX7_tollsFrom_15g.2.2.1
theorem dX7_tollsFrom_21 : decode cX7_tollsFrom 21 = .ok (.aload_n 0, 1) := dX7_tollsFrom_15g.2.2.2.1
theorem dX7_tollsFrom_22 : decode cX7_tollsFrom 22 = .ok (.iload 5, 2) := dX7_tollsFrom_15g.2.2.2.2.1
theorem dX7_tollsFrom_24 : decode cX7_tollsFrom 24 = .ok (.iload_n 2, 1) := dX7_tollsFrom_15g.2.2.2.2.2.1
theorem dX7_tollsFrom_25 : decode cX7_tollsFrom 25 = .ok (.iconst 1, 1) := dX7_tollsFrom_15g.2.2.2.2.2.2.1
theorem dX7_tollsFrom_26 : decode cX7_tollsFrom 26 = .ok (.invokevirtual 103, 3) := dX7_tollsFrom_15g.2.2.2.2.2.2.2.1
theorem dX7_tollsFrom_29 : decode cX7_tollsFrom 29 = .ok (.iadd, 1) := dX7_tollsFrom_15g.2.2.2.2.2.2.2.2.1
theorem dX7_tollsFrom_30 : decode cX7_tollsFrom 30 = .ok (.istore 4, 2) := dX7_tollsFrom_15g.2.2.2.2.2.2.2.2.2
theorem dX7_tollsFrom_32g : (decode cX7_tollsFrom 32 = .ok (.iinc 5 1, 3)) ∧ (decode cX7_tollsFrom 35 = .ok (.goto (-22), 3)) ∧ (decode cX7_tollsFrom 38 = .ok (.iload_n 1, 1)) ∧ (decode cX7_tollsFrom 39 = .ok (.istore 5, 2)) ∧ (decode cX7_tollsFrom 41 = .ok (.iload 5, 2)) ∧ (decode cX7_tollsFrom 43 = .ok (.iload_n 3, 1)) ∧ (decode cX7_tollsFrom 44 = .ok (.if_icmp .le 22, 3)) ∧ (decode cX7_tollsFrom 47 = .ok (.iload 4, 2)) ∧ (decode cX7_tollsFrom 49 = .ok (.aload_n 0, 1)) ∧ (decode cX7_tollsFrom 50 = .ok (.iload 5, 2)) := by decide +kernel
theorem dX7_tollsFrom_32 : decode cX7_tollsFrom 32 = .ok (.iinc 5 1, 3) := dX7_tollsFrom_32g.1
theorem dX7_tollsFrom_35 : decode cX7_tollsFrom 35 = .ok (.goto (-22), 3) := dX7_tollsFrom_32g.2.1
theorem dX7_tollsFrom_38 : decode cX7_tollsFrom 38 = .ok (.iload_n 1, 1) := dX7_tollsFrom_32g.2.2.1
theorem dX7_tollsFrom_39 : decode cX7_tollsFrom 39 = .ok (.istore 5, 2) := dX7_tollsFrom_32g.2.2.2.1
theorem dX7_tollsFrom_41 : decode cX7_tollsFrom 41 = .ok (.iload 5, 2) := dX7_tollsFrom_32g.2.2.2.2.1
theorem dX7_tollsFrom_43 : decode cX7_tollsFrom 43 = .ok (.iload_n 3, 1) := dX7_tollsFrom_32g.2.2.2.2.2.1
theorem dX7_tollsFrom_44 : decode cX7_tollsFrom 44 = .ok (.if_icmp .le 22, 3) := dX7_tollsFrom_32g.2.2.2.2.2.2.1
theorem dX7_tollsFrom_47 : decode cX7_tollsFrom 47 = .ok (.iload 4, 2) := dX7_tollsFrom_32g.2.2.2.2.2.2.2.1
theorem dX7_tollsFrom_49 : decode cX7_tollsFrom 49 = .ok (.aload_n 0, 1) := dX7_tollsFrom_32g.2.2.2.2.2.2.2.2.1
theorem dX7_tollsFrom_50 : decode cX7_tollsFrom 50 = .ok (.iload 5, 2) := dX7_tollsFrom_32g.2.2.2.2.2.2.2.2.2
theorem dX7_tollsFrom_52g : (decode cX7_tollsFrom 52 = .ok (.iload_n 2, 1)) ∧ (decode cX7_tollsFrom 53 = .ok (.iconst 0, 1)) ∧ (decode cX7_tollsFrom 54 = .ok (.invokevirtual 103, 3)) ∧ (decode cX7_tollsFrom 57 = .ok (.iadd, 1)) ∧ (decode cX7_tollsFrom 58 = .ok (.istore 4, 2)) ∧ (decode cX7_tollsFrom 60 = .ok (.iinc 5 (-1), 3)) ∧ (decode cX7_tollsFrom 63 = .ok (.goto (-22), 3)) ∧ (decode cX7_tollsFrom 66 = .ok (.iload 4, 2)) ∧ (decode cX7_tollsFrom 68 = .ok (.ireturn, 1)) := by decide +kernel
theorem dX7_tollsFrom_52 : decode cX7_tollsFrom 52 = .ok (.iload_n 2, 1) := dX7_tollsFrom_52g.1
theorem dX7_tollsFrom_53 : decode cX7_tollsFrom 53 = .ok (.iconst 0, 1) := dX7_tollsFrom_52g.2.1
theorem dX7_tollsFrom_54 : decode cX7_tollsFrom 54 = .ok (.invokevirtual 103, 3) := dX7_tollsFrom_52g.2.2.1
theorem dX7_tollsFrom_57 : decode cX7_tollsFrom 57 = .ok (.iadd, 1) := dX7_tollsFrom_52g.2.2.2.1
theorem dX7_tollsFrom_58 : decode cX7_tollsFrom 58 = .ok (.istore 4, 2) := dX7_tollsFrom_52g.2.2.2.2.1
theorem dX7_tollsFrom_60 : decode cX7_tollsFrom 60 = .ok (.iinc 5 (-1), 3) := dX7_tollsFrom_52g.2.2.2.2.2.1
theorem dX7_tollsFrom_63 : decode cX7_tollsFrom 63 = .ok (.goto (-22), 3) := dX7_tollsFrom_52g.2.2.2.2.2.2.1
theorem dX7_tollsFrom_66 : decode cX7_tollsFrom 66 = .ok (.iload 4, 2) := dX7_tollsFrom_52g.2.2.2.2.2.2.2.1
theorem dX7_tollsFrom_68 : decode cX7_tollsFrom 68 = .ok (.ireturn, 1) := dX7_tollsFrom_52g.2.2.2.2.2.2.2.2
set_option maxHeartbeats 4000000 in
set_option maxRecDepth 100000 in
theorem c_X7_tollsFrom (l : Launch) (E : Nat → Nat) (D : va_G) (G : th_G) (h0 : Nat) (hG0 : G h0 = some (9, 0)) (x1 x2 : Int32) : Met l yX7_tollsFrom (tb (.code yX7_tollsFrom cX7_tollsFrom 6 (some .int))) (rm 5) (va_Pc [.ref h0, .int x1, .int x2] (th_P E D G)) (QI E D G (fun r => True)) 0 0 (th_A G) := by
  refine Met.ofW (cc := cX7_tollsFrom) (maxL := 6) (ret := (some .int)) (by decide) rfl ?_
  intro p e s m args below meth c s₁ B hml hv
  obtain ⟨hav, hI, hN, hK⟩ := hv
  have hx := B.exec
  have hb := B.bytes
  have hr := B.returns
  have hts := atoms_spec (ws := tb (.code yX7_tollsFrom cX7_tollsFrom 6 (some .int))) B.pre
  have hown : s.vm.findClass RX7 = some m.cls := findClass_of_methodNamed B.named
  have hlocks := B.notSynchronized
  have hS : va_S (th_A G) s.heap s.heap [] := va_S.rf
  have hl := lv_entry ([.ref h0, .int x1, .int x2]) (n := 6) (Nat.le_of_ble_eq_true rfl)
  rw [show entryFrame m args 6 = entryFrame m ([.ref h0, .int x1, .int x2] : List Value).toArray 6 from by rw [hav], lg_entry_eq]
  generalize (lg_sl ([.ref h0, .int x1, .int x2]) ++ List.replicate (6 - (lg_sl ([.ref h0, .int x1, .int x2])).length) Slot.unset).toArray = ls at hl ⊢
  have hl : lv_has ls 6 [(0, .ref h0), (1, .int x1), (2, .int x2)] := hl
  generalize hR : (headSpec (tb (.code yX7_tollsFrom cX7_tollsFrom 6 (some .int))) (rm 5)).room = R
  have hR := hR.symm
  generalize hQ : MQ below (QI E D G (fun r => True)) args s 0 0 (th_A G) = QF
  have hQ := hQ.symm
  have J_41 : ∀ (nn : Nat) (H : Heap) (locs : List Loc) (ls : Array Slot) (v266 : Int32) (v267 : Int32) (v268 : Int32), (Int.toNat (v266.toInt - v268.toInt) = nn) → lv_has ls 6 [(5, .int v266), (4, .int v267), (3, .int v268), (0, .ref h0), (1, .int x1), (2, .int x2)] → th_I (okC E) D G [] H → va_S (th_A G) s.heap H locs → W p l e R s m args below meth c H locs 0 0 QF (F0 m 41 ls []) := by
    intro nn
    induction nn using Nat.strongRecOn with
    | ind nn ih_41 =>
      intro H locs ls v266 v267 v268 hm hl  hI hS
      refine lv_iload hx hb dX7_tollsFrom_41 (lv_at hl 0 rfl) ?_
      refine lv_iload_n hx hb dX7_tollsFrom_43 rfl (lv_at hl 2 rfl) ?_
      have k269 := iv_lo v266
      have k270 := iv_hi v266
      have k271 := iv_lo v268
      have k272 := iv_hi v268
      refine lv_icmp_le (tgt := 66) hx hb dX7_tollsFrom_44 (by decide) (fun c273 => ?_) (fun c273 => ?_)
      · skip
        have k274 := iv_le (X := v266.toInt) (Y := v268.toInt) rfl rfl c273
        refine lv_iload hx hb dX7_tollsFrom_66 (lv_at hl 1 rfl) ?_
        have hpost : True := trivial
        rw [hQ]
        exact W.iret (v := v267) hx hb hr (fun t ht hW => ⟨⟨v267, (), rfl, hpost, by rw [ht]; exact hI, hN.warm hW, va_K.moved hW.alike hK⟩, hS.F ht⟩) hS.2.2 dX7_tollsFrom_68
      · skip
        have k275 := iv_nle (X := v266.toInt) (Y := v268.toInt) rfl rfl c273
        refine lv_iload hx hb dX7_tollsFrom_47 (lv_at hl 1 rfl) ?_
        refine lv_aload_n hx hb dX7_tollsFrom_49 rfl (lv_at hl 3 rfl) ?_
        refine lv_iload hx hb dX7_tollsFrom_50 (lv_at hl 0 rfl) ?_
        refine lv_iload_n hx hb dX7_tollsFrom_52 rfl (lv_at hl 5 rfl) ?_
        refine lv_iconst (v := 0) hx hb dX7_tollsFrom_53 (by decide) ?_
        refine th_cVi (As := [.int v266, .int x2, .int 0]) (rest := [.int v267]) (n := 3) (d := 4) ⟨hx, hb, hml, hown, hts⟩ (c_X7_tollAt l E D G h0 hG0 v266 x2 0) wd_893 wd_815 wd_816 wd_6 wd_817 (by decide +kernel) ⟨by rw [hR]; exact Nat.le_of_ble_eq_true rfl, by rw [hR]; exact Nat.le_of_ble_eq_true rfl⟩ hI hN hK hS (rc_9 hI hG0 List.not_mem_nil) rfl rfl hl.1 rfl (Nat.le_of_ble_eq_true rfl) dX7_tollsFrom_54 ⟨Nat.zero_le _, Nat.zero_le _⟩ (fun r276 H locs hp hI hS => ?_)
        refine lv_iadd hx hb dX7_tollsFrom_57 ?_
        refine lv_topi (fun v277 e278 => ?_)
        try have tv277 : v277.toInt = v267.toInt + r276.toInt := iv_add rfl rfl e278 (by omega) (by omega)
        refine lv_istore (lv' := [(4, .int v277), (5, .int v266), (3, .int v268), (0, .ref h0), (1, .int x1), (2, .int x2)]) hx hb dX7_tollsFrom_58 hl (by decide) rfl (fun ls hl => ?_)
        obtain ⟨v279, e280⟩ : ∃ y : Int32, y = v266 + (-1) := ⟨_, rfl⟩
        have tv279 : v279.toInt = v266.toInt + (-1) := iv_add rfl (by decide) e280 (by omega) (by omega)
        refine lv_iinc (v := v279) (lv' := [(5, .int v279), (4, .int v277), (3, .int v268), (0, .ref h0), (1, .int x1), (2, .int x2)]) hx hb dX7_tollsFrom_60 hl (k := 1) rfl (by rw [e280]; rfl) (by decide) rfl (fun ls hl => ?_)
        refine lv_goto (tgt := 41) hx hb dX7_tollsFrom_63 (by decide) ?_
        exact ih_41 _ (by omega) H locs ls v279 v277 v268 rfl (lv_sub hl [0, 1, 2, 3, 4, 5] rfl)  hI hS
  have J_13 : ∀ (nn : Nat) (H : Heap) (locs : List Loc) (ls : Array Slot) (v281 : Int32) (v282 : Int32) (v283 : Int32), (Int.toNat (v283.toInt - v281.toInt) = nn) → lv_has ls 6 [(5, .int v281), (4, .int v282), (3, .int v283), (0, .ref h0), (1, .int x1), (2, .int x2)] → th_I (okC E) D G [] H → va_S (th_A G) s.heap H locs → W p l e R s m args below meth c H locs 0 0 QF (F0 m 13 ls []) := by
    intro nn
    induction nn using Nat.strongRecOn with
    | ind nn ih_13 =>
      intro H locs ls v281 v282 v283 hm hl  hI hS
      refine lv_iload hx hb dX7_tollsFrom_13 (lv_at hl 0 rfl) ?_
      refine lv_iload_n hx hb dX7_tollsFrom_15 rfl (lv_at hl 2 rfl) ?_
      have k284 := iv_lo v281
      have k285 := iv_hi v281
      have k286 := iv_lo v283
      have k287 := iv_hi v283
      refine lv_icmp_ge (tgt := 38) hx hb dX7_tollsFrom_16 (by decide) (fun c288 => ?_) (fun c288 => ?_)
      · skip
        have k289 := iv_le (X := v283.toInt) (Y := v281.toInt) rfl rfl c288
        refine lv_iload_n hx hb dX7_tollsFrom_38 rfl (lv_at hl 4 rfl) ?_
        refine lv_istore (lv' := [(5, .int x1), (4, .int v282), (3, .int v283), (0, .ref h0), (1, .int x1), (2, .int x2)]) hx hb dX7_tollsFrom_39 hl (by decide) rfl (fun ls hl => ?_)
        exact J_41 _ H locs ls x1 v282 v283 rfl (lv_sub hl [0, 1, 2, 3, 4, 5] rfl)  hI hS
      · skip
        have k290 := iv_nle (X := v283.toInt) (Y := v281.toInt) rfl rfl c288
        refine lv_iload hx hb dX7_tollsFrom_19 (lv_at hl 1 rfl) ?_
        refine lv_aload_n hx hb dX7_tollsFrom_21 rfl (lv_at hl 3 rfl) ?_
        refine lv_iload hx hb dX7_tollsFrom_22 (lv_at hl 0 rfl) ?_
        refine lv_iload_n hx hb dX7_tollsFrom_24 rfl (lv_at hl 5 rfl) ?_
        refine lv_iconst (v := 1) hx hb dX7_tollsFrom_25 (by decide) ?_
        refine th_cVi (As := [.int v281, .int x2, .int 1]) (rest := [.int v282]) (n := 3) (d := 4) ⟨hx, hb, hml, hown, hts⟩ (c_X7_tollAt l E D G h0 hG0 v281 x2 1) wd_893 wd_815 wd_816 wd_6 wd_817 (by decide +kernel) ⟨by rw [hR]; exact Nat.le_of_ble_eq_true rfl, by rw [hR]; exact Nat.le_of_ble_eq_true rfl⟩ hI hN hK hS (rc_9 hI hG0 List.not_mem_nil) rfl rfl hl.1 rfl (Nat.le_of_ble_eq_true rfl) dX7_tollsFrom_26 ⟨Nat.zero_le _, Nat.zero_le _⟩ (fun r291 H locs hp hI hS => ?_)
        refine lv_iadd hx hb dX7_tollsFrom_29 ?_
        refine lv_topi (fun v292 e293 => ?_)
        try have tv292 : v292.toInt = v282.toInt + r291.toInt := iv_add rfl rfl e293 (by omega) (by omega)
        refine lv_istore (lv' := [(4, .int v292), (5, .int v281), (3, .int v283), (0, .ref h0), (1, .int x1), (2, .int x2)]) hx hb dX7_tollsFrom_30 hl (by decide) rfl (fun ls hl => ?_)
        obtain ⟨v294, e295⟩ : ∃ y : Int32, y = v281 + (1) := ⟨_, rfl⟩
        have tv294 : v294.toInt = v281.toInt + (1) := iv_add rfl (by decide) e295 (by omega) (by omega)
        refine lv_iinc (v := v294) (lv' := [(5, .int v294), (4, .int v292), (3, .int v283), (0, .ref h0), (1, .int x1), (2, .int x2)]) hx hb dX7_tollsFrom_32 hl (k := 1) rfl (by rw [e295]; rfl) (by decide) rfl (fun ls hl => ?_)
        refine lv_goto (tgt := 13) hx hb dX7_tollsFrom_35 (by decide) ?_
        exact ih_13 _ (by omega) H locs ls v294 v292 v283 rfl (lv_sub hl [0, 1, 2, 3, 4, 5] rfl)  hI hS
  refine lv_aload_n hx hb dX7_tollsFrom_0 rfl (lv_at hl 0 rfl) ?_
  refine lv_iload_n hx hb dX7_tollsFrom_1 rfl (lv_at hl 1 rfl) ?_
  refine lv_iload_n hx hb dX7_tollsFrom_2 rfl (lv_at hl 2 rfl) ?_
  refine th_cVi (As := [.int x1, .int x2]) (rest := []) (n := 2) (d := 4) ⟨hx, hb, hml, hown, hts⟩ (c_X7_stepFrom l E D G h0 hG0 x1 x2) wd_530 wd_531 wd_532 wd_6 wd_533 (by decide +kernel) ⟨by rw [hR]; exact Nat.le_of_ble_eq_true rfl, by rw [hR]; exact Nat.le_of_ble_eq_true rfl⟩ hI hN hK hS (rc_9 hI hG0 List.not_mem_nil) rfl rfl hl.1 rfl (Nat.le_of_ble_eq_true rfl) dX7_tollsFrom_3 ⟨Nat.zero_le _, Nat.zero_le _⟩ (fun r296 H locs hp hI hS => ?_)
  refine lv_istore_n (lv' := [(3, .int r296), (0, .ref h0), (1, .int x1), (2, .int x2)]) hx hb dX7_tollsFrom_6 rfl hl (by decide) rfl (fun ls hl => ?_)
  refine lv_iconst (v := 0) hx hb dX7_tollsFrom_7 (by decide) ?_
  refine lv_istore (lv' := [(4, .int 0), (3, .int r296), (0, .ref h0), (1, .int x1), (2, .int x2)]) hx hb dX7_tollsFrom_8 hl (by decide) rfl (fun ls hl => ?_)
  refine lv_iload_n hx hb dX7_tollsFrom_10 rfl (lv_at hl 3 rfl) ?_
  refine lv_istore (lv' := [(5, .int x1), (4, .int 0), (3, .int r296), (0, .ref h0), (1, .int x1), (2, .int x2)]) hx hb dX7_tollsFrom_11 hl (by decide) rfl (fun ls hl => ?_)
  exact J_13 _ H locs ls x1 0 r296 rfl (lv_sub hl [0, 1, 2, 3, 4, 5] rfl)  hI hS
theorem dX7_turns_0g : (decode cX7_turns 0 = .ok (.iconst 0, 1)) ∧ (decode cX7_turns 1 = .ok (.istore 4, 2)) ∧ (decode cX7_turns 3 = .ok (.iload_n 2, 1)) ∧ (decode cX7_turns 4 = .ok (.istore 5, 2)) ∧ (decode cX7_turns 6 = .ok (.iload 5, 2)) ∧ (decode cX7_turns 8 = .ok (.iload_n 3, 1)) ∧ (decode cX7_turns 9 = .ok (.if_icmp .gt 31, 3)) ∧ (decode cX7_turns 12 = .ok (.iload 5, 2)) ∧ (decode cX7_turns 14 = .ok (.bipush 96, 2)) ∧ (decode cX7_turns 16 = .ok (.if_icmp .ge 24, 3)) := by decide +kernel
theorem dX7_turns_0 : decode cX7_turns 0 = .ok (.iconst 0, 1) := dX7_turns_0g.1
theorem dX7_turns_1 : decode cX7_turns 1 = .ok (.istore 4, 2) := dX7_turns_0g.2.1
theorem dX7_turns_3 : decode cX7_turns 3 = .ok (.iload_n 2, 1) := dX7_turns_0g.2.2.1
theorem dX7_turns_4 : decode cX7_turns 4 = .ok (.istore 5, 2) := dX7_turns_0g.2.2.2.1
theorem dX7_turns_6 : decode cX7_turns 6 = .ok (.iload 5, 2) := dX7_turns_0g.2.2.2.2.1
theorem dX7_turns_8 : decode cX7_turns 8 = .ok (.iload_n 3, 1) := dX7_turns_0g.2.2.2.2.2.1
theorem dX7_turns_9 : decode cX7_turns 9 = .ok (.if_icmp .gt 31, 3) := dX7_turns_0g.2.2.2.2.2.2.1
theorem dX7_turns_12 : decode cX7_turns 12 = .ok (.iload 5, 2) := dX7_turns_0g.2.2.2.2.2.2.2.1
theorem dX7_turns_14 : decode cX7_turns 14 = .ok (.bipush 96, 2) := dX7_turns_0g.2.2.2.2.2.2.2.2.1
theorem dX7_turns_16 : decode cX7_turns 16 = .ok (.if_icmp .ge 24, 3) := dX7_turns_0g.2.2.2.2.2.2.2.2.2
theorem dX7_turns_19g : (decode cX7_turns 19 = .ok (.iload 4, 2)) ∧ (decode cX7_turns 21 = .ok (.aload_n 0, 1)) ∧ (decode cX7_turns 22 = .ok (.iload_n 1, 1)) ∧ (decode cX7_turns 23 = .ok (.iload 5, 2)) ∧ (decode cX7_turns 25 = .ok (.invokevirtual 106, 3)) ∧ (decode cX7_turns 28 = .ok (.invokestatic 109, 3)) ∧ (decode cX7_turns 31 = .ok (.iadd, 1)) ∧ (decode cX7_turns 32 = .ok (.istore 4, 2)) ∧ (decode cX7_turns 34 = .ok (.iinc 5 1, 3)) ∧ (decode cX7_turns 37 = .ok (.goto (-31), 3)) := by decide +kernel
theorem dX7_turns_19 : decode cX7_turns 19 = .ok (.iload 4, 2) := dX7_turns_19g.1
theorem dX7_turns_21 : decode cX7_turns 21 = .ok (.aload_n 0, 1) := dX7_turns_19g.2.1
theorem dX7_turns_22 : decode cX7_turns 22 = .ok (.iload_n 1, 1) := dX7_turns_19g.2.2.1
theorem dX7_turns_23 : decode cX7_turns 23 = .ok (.iload 5, 2) := dX7_turns_19g.2.2.2.1
theorem dX7_turns_25 : decode cX7_turns 25 = .ok (.invokevirtual 106, 3) := dX7_turns_19g.2.2.2.2.1
theorem dX7_turns_28 : decode cX7_turns 28 = .ok (.invokestatic 109, 3) := dX7_turns_19g.2.2.2.2.2.1
theorem dX7_turns_31 : decode cX7_turns 31 = .ok (.iadd, 1) := dX7_turns_19g.2.2.2.2.2.2.1
theorem dX7_turns_32 : decode cX7_turns 32 = .ok (.istore 4, 2) := dX7_turns_19g.2.2.2.2.2.2.2.1
theorem dX7_turns_34 : decode cX7_turns 34 = .ok (.iinc 5 1, 3) := dX7_turns_19g.2.2.2.2.2.2.2.2.1
theorem dX7_turns_37 : decode cX7_turns 37 = .ok (.goto (-31), 3) := dX7_turns_19g.2.2.2.2.2.2.2.2.2
theorem dX7_turns_40g : (decode cX7_turns 40 = .ok (.iload 4, 2)) ∧ (decode cX7_turns 42 = .ok (.ireturn, 1)) := by decide +kernel
theorem dX7_turns_40 : decode cX7_turns 40 = .ok (.iload 4, 2) := dX7_turns_40g.1
theorem dX7_turns_42 : decode cX7_turns 42 = .ok (.ireturn, 1) := dX7_turns_40g.2
set_option maxHeartbeats 4000000 in
set_option maxRecDepth 100000 in
theorem c_X7_turns (l : Launch) (E : Nat → Nat) (D : va_G) (G : th_G) (h0 : Nat) (hG0 : G h0 = some (9, 0)) (x1 x2 x3 : Int32) : Met l yX7_turns (tb (.code yX7_turns cX7_turns 6 (some .int))) (rm 6) (va_Pc [.ref h0, .int x1, .int x2, .int x3] (th_P E D G)) (QI E D G (fun r => True)) 0 0 (th_A G) := by
  refine Met.ofW (cc := cX7_turns) (maxL := 6) (ret := (some .int)) (by decide) rfl ?_
  intro p e s m args below meth c s₁ B hml hv
  obtain ⟨hav, hI, hN, hK⟩ := hv
  have hx := B.exec
  have hb := B.bytes
  have hr := B.returns
  have hts := atoms_spec (ws := tb (.code yX7_turns cX7_turns 6 (some .int))) B.pre
  have hown : s.vm.findClass RX7 = some m.cls := findClass_of_methodNamed B.named
  have hlocks := B.notSynchronized
  have hS : va_S (th_A G) s.heap s.heap [] := va_S.rf
  have hl := lv_entry ([.ref h0, .int x1, .int x2, .int x3]) (n := 6) (Nat.le_of_ble_eq_true rfl)
  rw [show entryFrame m args 6 = entryFrame m ([.ref h0, .int x1, .int x2, .int x3] : List Value).toArray 6 from by rw [hav], lg_entry_eq]
  generalize (lg_sl ([.ref h0, .int x1, .int x2, .int x3]) ++ List.replicate (6 - (lg_sl ([.ref h0, .int x1, .int x2, .int x3])).length) Slot.unset).toArray = ls at hl ⊢
  have hl : lv_has ls 6 [(0, .ref h0), (1, .int x1), (2, .int x2), (3, .int x3)] := hl
  generalize hR : (headSpec (tb (.code yX7_turns cX7_turns 6 (some .int))) (rm 6)).room = R
  have hR := hR.symm
  generalize hQ : MQ below (QI E D G (fun r => True)) args s 0 0 (th_A G) = QF
  have hQ := hQ.symm
  have J_6 : ∀ (nn : Nat) (H : Heap) (locs : List Loc) (ls : Array Slot) (v153 : Int32) (v154 : Int32), (Int.toNat (96 - v153.toInt) = nn) → lv_has ls 6 [(5, .int v153), (4, .int v154), (0, .ref h0), (1, .int x1), (2, .int x2), (3, .int x3)] → th_I (okC E) D G [] H → va_S (th_A G) s.heap H locs → W p l e R s m args below meth c H locs 0 0 QF (F0 m 6 ls []) := by
    intro nn
    induction nn using Nat.strongRecOn with
    | ind nn ih_6 =>
      intro H locs ls v153 v154 hm hl  hI hS
      refine lv_iload hx hb dX7_turns_6 (lv_at hl 0 rfl) ?_
      refine lv_iload_n hx hb dX7_turns_8 rfl (lv_at hl 5 rfl) ?_
      have k155 := iv_lo v153
      have k156 := iv_hi v153
      have k157 := iv_lo x3
      have k158 := iv_hi x3
      refine lv_icmp_gt (tgt := 40) hx hb dX7_turns_9 (by decide) (fun c159 => ?_) (fun c159 => ?_)
      · skip
        have k160 := iv_lt (X := x3.toInt) (Y := v153.toInt) rfl rfl c159
        refine lv_iload hx hb dX7_turns_40 (lv_at hl 1 rfl) ?_
        have hpost : True := trivial
        rw [hQ]
        exact W.iret (v := v154) hx hb hr (fun t ht hW => ⟨⟨v154, (), rfl, hpost, by rw [ht]; exact hI, hN.warm hW, va_K.moved hW.alike hK⟩, hS.F ht⟩) hS.2.2 dX7_turns_42
      · skip
        have k161 := iv_nlt (X := x3.toInt) (Y := v153.toInt) rfl rfl c159
        refine lv_iload hx hb dX7_turns_12 (lv_at hl 0 rfl) ?_
        refine lv_bipush (v := 96) hx hb dX7_turns_14 (by decide) ?_
        refine lv_icmp_ge (tgt := 40) hx hb dX7_turns_16 (by decide) (fun c162 => ?_) (fun c162 => ?_)
        · skip
          have k163 := iv_le (X := (96)) (Y := v153.toInt) (by decide) rfl c162
          refine lv_iload hx hb dX7_turns_40 (lv_at hl 1 rfl) ?_
          have hpost : True := trivial
          rw [hQ]
          exact W.iret (v := v154) hx hb hr (fun t ht hW => ⟨⟨v154, (), rfl, hpost, by rw [ht]; exact hI, hN.warm hW, va_K.moved hW.alike hK⟩, hS.F ht⟩) hS.2.2 dX7_turns_42
        · skip
          have k164 := iv_nle (X := (96)) (Y := v153.toInt) (by decide) rfl c162
          refine lv_iload hx hb dX7_turns_19 (lv_at hl 1 rfl) ?_
          refine lv_aload_n hx hb dX7_turns_21 rfl (lv_at hl 2 rfl) ?_
          refine lv_iload_n hx hb dX7_turns_22 rfl (lv_at hl 3 rfl) ?_
          refine lv_iload hx hb dX7_turns_23 (lv_at hl 0 rfl) ?_
          refine th_cVi (As := [.int x1, .int v153]) (rest := [.int v154]) (n := 2) (d := 5) ⟨hx, hb, hml, hown, hts⟩ (c_X7_flowAt l E D G h0 hG0 x1 v153) wd_526 wd_527 wd_528 wd_6 wd_529 (by decide +kernel) ⟨by rw [hR]; exact Nat.le_of_ble_eq_true rfl, by rw [hR]; exact Nat.le_of_ble_eq_true rfl⟩ hI hN hK hS (rc_9 hI hG0 List.not_mem_nil) rfl rfl hl.1 rfl (Nat.le_of_ble_eq_true rfl) dX7_turns_25 ⟨Nat.zero_le _, Nat.zero_le _⟩ (fun r165 H locs hp hI hS => ?_)
          refine va_mabs hx hb (hml.trans hl.1.symm) hown (hts _ (tb_c wd_590)) (hts _ (tb_c wd_591)) (hts _ (tb_c wd_4)) (hts _ (tb_c wd_592)) (by rw [hR]; exact Nat.le_of_ble_eq_true rfl) (by rw [hR]; exact Nat.le_of_ble_eq_true rfl) (Nat.zero_le _) (Nat.zero_le _) dX7_turns_28 ?_
          refine lv_topi (fun v166 e167 => ?_)
          refine lv_iadd hx hb dX7_turns_31 ?_
          refine lv_topi (fun v168 e169 => ?_)
          try have tv168 : v168.toInt = v154.toInt + v166.toInt := iv_add rfl rfl e169 (by omega) (by omega)
          refine lv_istore (lv' := [(4, .int v168), (5, .int v153), (0, .ref h0), (1, .int x1), (2, .int x2), (3, .int x3)]) hx hb dX7_turns_32 hl (by decide) rfl (fun ls hl => ?_)
          obtain ⟨v170, e171⟩ : ∃ y : Int32, y = v153 + (1) := ⟨_, rfl⟩
          have tv170 : v170.toInt = v153.toInt + (1) := iv_add rfl (by decide) e171 (by omega) (by omega)
          refine lv_iinc (v := v170) (lv' := [(5, .int v170), (4, .int v168), (0, .ref h0), (1, .int x1), (2, .int x2), (3, .int x3)]) hx hb dX7_turns_34 hl (k := 1) rfl (by rw [e171]; rfl) (by decide) rfl (fun ls hl => ?_)
          refine lv_goto (tgt := 6) hx hb dX7_turns_37 (by decide) ?_
          exact ih_6 _ (by omega) H locs ls v170 v168 rfl (lv_sub hl [0, 1, 2, 3, 4, 5] rfl)  hI hS
  refine lv_iconst (v := 0) hx hb dX7_turns_0 (by decide) ?_
  refine lv_istore (lv' := [(4, .int 0), (0, .ref h0), (1, .int x1), (2, .int x2), (3, .int x3)]) hx hb dX7_turns_1 hl (by decide) rfl (fun ls hl => ?_)
  refine lv_iload_n hx hb dX7_turns_3 rfl (lv_at hl 3 rfl) ?_
  refine lv_istore (lv' := [(5, .int x2), (4, .int 0), (0, .ref h0), (1, .int x1), (2, .int x2), (3, .int x3)]) hx hb dX7_turns_4 hl (by decide) rfl (fun ls hl => ?_)
  exact J_6 _ s.heap [] ls x2 0 rfl (lv_sub hl [0, 1, 2, 3, 4, 5] rfl)  hI hS
