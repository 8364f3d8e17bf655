theorem wn_1079 : (Cond.methodLinkNest RX1 (115 : Nat) yX11_isMoment "NineRiver") ∈ lw_tbl := List.mem_append_right _ (List.mem_of_getElem? (i := 1079) (by decide +kernel))
theorem wp_31 : Cond.selects RX1 yX1_wash yX1_wash ∈ TB := tv 31 (by decide +kernel) (by decide +kernel)
theorem wp_32 : Cond.selects RX1 yX1_tint yX1_tint ∈ TB := tv 32 (by decide +kernel) (by decide +kernel)
theorem wp_33 : Cond.selects RX1 yX1_findBegins yX1_findBegins ∈ TB := tv 33 (by decide +kernel) (by decide +kernel)
theorem wp_34 : Cond.selects RX1 yX1_place yX1_place ∈ TB := tv 34 (by decide +kernel) (by decide +kernel)
theorem wp_35 : Cond.selects RX1 yX1_finish yX1_finish ∈ TB := tv 35 (by decide +kernel) (by decide +kernel)
theorem wd_1054 : (Cond.methodLink RX11 (310 : Nat) yX1_washing) ∈ TB := tw 1054 (by decide +kernel) (by decide +kernel)
theorem wd_1055 : (Jvm.Cond.instanceMethod yX1_washing) ∈ TB := tw 1055 (by decide +kernel) (by decide +kernel)
theorem wd_1056 : (Cond.selects RX1 yX1_washing yX1_washing) ∈ TB := tw 1056 (by decide +kernel) (by decide +kernel)
theorem wd_1057 : (Cond.code yX1_washing cX1_washing 3 (Option.some Jvm.ClassFile.FieldType.int)) ∈ TB := tw 1057 (by decide +kernel) (by decide +kernel)
theorem wd_1058 : (Cond.methodLink RX1 (90 : Nat) yX1_wash) ∈ TB := tw 1058 (by decide +kernel) (by decide +kernel)
theorem wd_1060 : (Jvm.Cond.instanceMethod yX1_wash) ∈ TB := tw 1060 (by decide +kernel) (by decide +kernel)
theorem wd_1061 : (Cond.code yX1_wash cX1_wash 2 (Option.none : Option Jvm.ClassFile.FieldType)) ∈ TB := tw 1061 (by decide +kernel) (by decide +kernel)
theorem wd_1062 : (Cond.methodLink RX1 (101 : Nat) yX1_tint) ∈ TB := tw 1062 (by decide +kernel) (by decide +kernel)
theorem wd_1064 : (Jvm.Cond.instanceMethod yX1_tint) ∈ TB := tw 1064 (by decide +kernel) (by decide +kernel)
theorem wd_1065 : (Cond.code yX1_tint cX1_tint 4 (Option.none : Option Jvm.ClassFile.FieldType)) ∈ TB := tw 1065 (by decide +kernel) (by decide +kernel)
theorem wd_1066 : (Cond.methodLink RX1 (104 : Nat) yX1_findBegins) ∈ TB := tw 1066 (by decide +kernel) (by decide +kernel)
theorem wd_1068 : (Jvm.Cond.instanceMethod yX1_findBegins) ∈ TB := tw 1068 (by decide +kernel) (by decide +kernel)
theorem wd_1069 : (Cond.code yX1_findBegins cX1_findBegins 8 (Option.none : Option Jvm.ClassFile.FieldType)) ∈ TB := tw 1069 (by decide +kernel) (by decide +kernel)
theorem wd_1070 : (Cond.methodLink RX1 (108 : Nat) yX1_place) ∈ TB := tw 1070 (by decide +kernel) (by decide +kernel)
theorem wd_1072 : (Jvm.Cond.instanceMethod yX1_place) ∈ TB := tw 1072 (by decide +kernel) (by decide +kernel)
theorem wd_1073 : (Cond.code yX1_place cX1_place 7 (Option.none : Option Jvm.ClassFile.FieldType)) ∈ TB := tw 1073 (by decide +kernel) (by decide +kernel)
theorem wd_1074 : (Cond.methodLink RX1 (112 : Nat) yX1_finish) ∈ TB := tw 1074 (by decide +kernel) (by decide +kernel)
theorem wd_1076 : (Jvm.Cond.instanceMethod yX1_finish) ∈ TB := tw 1076 (by decide +kernel) (by decide +kernel)
theorem wd_1077 : (Cond.code yX1_finish cX1_finish 2 (Option.none : Option Jvm.ClassFile.FieldType)) ∈ TB := tw 1077 (by decide +kernel) (by decide +kernel)
theorem dX1_place_0g : (decode cX1_place 0 = .ok (.aload_n 0, 1)) ∧ (decode cX1_place 1 = .ok (.getfield 38, 3)) ∧ (decode cX1_place 4 = .ok (.getfield 93, 3)) ∧ (decode cX1_place 7 = .ok (.invokevirtual 56, 3)) ∧ (decode cX1_place 10 = .ok (.istore 4, 2)) ∧ (decode cX1_place 12 = .ok (.iload_n 1, 1)) ∧ (decode cX1_place 13 = .ok (.iload 4, 2)) ∧ (decode cX1_place 15 = .ok (.if_icmp .ge 9, 3)) ∧ (decode cX1_place 18 = .ok (.iload_n 1, 1)) ∧ (decode cX1_place 19 = .ok (.bipush 6, 2)) := by decide +kernel
theorem dX1_place_0 : decode cX1_place 0 = .ok (.aload_n 0, 1) := dX1_place_0g.1
theorem dX1_place_1 : decode cX1_place 1 = .ok (.getfield 38, 3) := dX1_place_0g.2.1
theorem dX1_place_4 : decode cX1_place 4 = .ok (.getfield 93, 3) := dX1_place_0g.2.2.1
theorem dX1_place_7 : decode cX1_place 7 = .ok (.invokevirtual 56, 3) := dX1_place_0g.2.2.2.1
theorem dX1_place_10 : decode cX1_place 10 = .ok (.istore 4, 2) := dX1_place_0g.2.2.2.2.1
theorem dX1_place_12 : decode cX1_place 12 = .ok (.iload_n 1, 1) := dX1_place_0g.2.2.2.2.2.1
theorem dX1_place_13 : decode cX1_place 13 = .ok (.iload 4, 2) := dX1_place_0g.2.2.2.2.2.2.1
theorem dX1_place_15 : decode cX1_place 15 = .ok (.if_icmp .ge 9, 3) := dX1_place_0g.2.2.2.2.2.2.2.1
theorem dX1_place_18 : decode cX1_place 18 = .ok (.iload_n 1, 1) := dX1_place_0g.2.2.2.2.2.2.2.2.1
theorem dX1_place_19 : decode cX1_place 19 = .ok (.bipush 6, 2) := dX1_place_0g.2.2.2.2.2.2.2.2.2
theorem dX1_place_21g : (decode cX1_place 21 = .ok (.if_icmp .lt 9, 3)) ∧ (decode cX1_place 24 = .ok (.aload_n 0, 1)) ∧ (decode cX1_place 25 = .ok (.iload_n 3, 1)) ∧ (decode cX1_place 26 = .ok (.invokevirtual 112, 3)) ∧ (decode cX1_place 29 = .ok (.return_, 1)) ∧ (decode cX1_place 30 = .ok (.iconst 0, 1)) ∧ (decode cX1_place 31 = .ok (.istore 5, 2)) ∧ (decode cX1_place 33 = .ok (.iload 5, 2)) ∧ (decode cX1_place 35 = .ok (.iload 4, 2)) ∧ (decode cX1_place 37 = .ok (.if_icmp .ge 104, 3)) := by decide +kernel
theorem dX1_place_21 : decode cX1_place 21 = .ok (.if_icmp .lt 9, 3) := dX1_place_21g.1
theorem dX1_place_24 : decode cX1_place 24 = .ok (.aload_n 0, 1) := dX1_place_21g.2.1
theorem dX1_place_25 : decode cX1_place 25 = .ok (.iload_n 3, 1) := dX1_place_21g.2.2.1
theorem dX1_place_26 : decode cX1_place 26 = .ok (.invokevirtual 112, 3) := dX1_place_21g.2.2.2.1
theorem dX1_place_29 : decode cX1_place 29 = .ok (.return_, 1) := dX1_place_21g.2.2.2.2.1
theorem dX1_place_30 : decode cX1_place 30 = .ok (.iconst 0, 1) := dX1_place_21g.2.2.2.2.2.1
theorem dX1_place_31 : decode cX1_place 31 = .ok (.istore 5, 2) := dX1_place_21g.2.2.2.2.2.2.1
theorem dX1_place_33 : decode cX1_place 33 = .ok (.iload 5, 2) := dX1_place_21g.2.2.2.2.2.2.2.1
theorem dX1_place_35 : decode cX1_place 35 = .ok (.iload 4, 2) := dX1_place_21g.2.2.2.2.2.2.2.2.1
theorem dX1_place_37 : decode cX1_place 37 = .ok (.if_icmp .ge 104, 3) := dX1_place_21g.2.2.2.2.2.2.2.2.2
theorem dX1_place_40g : (decode cX1_place 40 = .ok (.iload 5, 2)) ∧ (decode cX1_place 42 = .ok (.bipush 6, 2)) ∧ (decode cX1_place 44 = .ok (.if_icmp .ge 97, 3)) ∧ (decode cX1_place 47 = .ok (.iload_n 3, 1)) ∧ (decode cX1_place 48 = .ok (.invokestatic 115, 3)) ∧ (decode cX1_place 51 = .ok (.ifCond .eq 18, 3)) ∧ (decode cX1_place 54 = .ok (.aload_n 0, 1)) ∧ (decode cX1_place 55 = .ok (.getfield 18, 3)) ∧ (decode cX1_place 58 = .ok (.iload 5, 2)) ∧ (decode cX1_place 60 = .ok (.bipush 97, 2)) := by decide +kernel
theorem dX1_place_40 : decode cX1_place 40 = .ok (.iload 5, 2) := dX1_place_40g.1
theorem dX1_place_42 : decode cX1_place 42 = .ok (.bipush 6, 2) := dX1_place_40g.2.1
theorem dX1_place_44 : decode cX1_place 44 = .ok (.if_icmp .ge 97, 3) := dX1_place_40g.2.2.1
theorem dX1_place_47 : decode cX1_place 47 = .ok (.iload_n 3, 1) := dX1_place_40g.2.2.2.1
theorem dX1_place_48 : decode cX1_place 48 = .ok (.invokestatic 115, 3) := dX1_place_40g.2.2.2.2.1
theorem dX1_place_51 : decode cX1_place 51 = .ok (.ifCond .eq 18, 3) := dX1_place_40g.2.2.2.2.2.1
theorem dX1_place_54 : decode cX1_place 54 = .ok (.aload_n 0, 1) := dX1_place_40g.2.2.2.2.2.2.1
theorem dX1_place_55 : decode cX1_place 55 = .ok (.getfield 18, 3) := dX1_place_40g.2.2.2.2.2.2.2.1
theorem dX1_place_58 : decode cX1_place 58 = .ok (.iload 5, 2) := dX1_place_40g.2.2.2.2.2.2.2.2.1
theorem dX1_place_60 : decode cX1_place 60 = .ok (.bipush 97, 2) := dX1_place_40g.2.2.2.2.2.2.2.2.2
theorem dX1_place_62g : (decode cX1_place 62 = .ok (.imul, 1)) ∧ (decode cX1_place 63 = .ok (.iload_n 3, 1)) ∧ (decode cX1_place 64 = .ok (.iadd, 1)) ∧ (decode cX1_place 65 = .ok (.iaload, 1)) ∧ (decode cX1_place 66 = .ok (.goto 4, 3)) ∧ (decode cX1_place 69 = .ok (.iconst (-1), 1)) ∧ (decode cX1_place 70 = .ok (.istore 6, 2)) ∧ (decode cX1_place 72 = .ok (.iload_n 2, 1)) ∧ (decode cX1_place 73 = .ok (.iload 5, 2)) ∧ (decode cX1_place 75 = .ok (.ishr, 1)) := by decide +kernel
theorem dX1_place_62 : decode cX1_place 62 = .ok (.imul, 1) := dX1_place_62g.1
theorem dX1_place_63 : decode cX1_place 63 = .ok (.iload_n 3, 1) := dX1_place_62g.2.1
theorem dX1_place_64 : decode cX1_place 64 = .ok (.iadd, 1) := dX1_place_62g.2.2.1
theorem dX1_place_65 : decode cX1_place 65 = .ok (.iaload, 1) := dX1_place_62g.2.2.2.1
theorem dX1_place_66 : decode cX1_place 66 = .ok (.goto 4, 3) := dX1_place_62g.2.2.2.2.1
theorem dX1_place_69 : decode cX1_place 69 = .ok (.iconst (-1), 1) := dX1_place_62g.2.2.2.2.2.1
theorem dX1_place_70 : decode cX1_place 70 = .ok (.istore 6, 2) := dX1_place_62g.2.2.2.2.2.2.1
theorem dX1_place_72 : decode cX1_place 72 = .ok (.iload_n 2, 1) := dX1_place_62g.2.2.2.2.2.2.2.1
theorem dX1_place_73 : decode cX1_place 73 = .ok (.iload 5, 2) := dX1_place_62g.2.2.2.2.2.2.2.2.1
theorem dX1_place_75 : decode cX1_place 75 = .ok (.ishr, 1) := dX1_place_62g.2.2.2.2.2.2.2.2.2
theorem dX1_place_76g : (decode cX1_place 76 = .ok (.iconst 1, 1)) ∧ (decode cX1_place 77 = .ok (.iand, 1)) ∧ (decode cX1_place 78 = .ok (.ifCond .ne 57, 3)) ∧ (decode cX1_place 81 = .ok (.iload 6, 2)) ∧ (decode cX1_place 83 = .ok (.iconst (-1), 1)) ∧ (decode cX1_place 84 = .ok (.if_icmp .eq 51, 3)) ∧ (decode cX1_place 87 = .ok (.aload_n 0, 1)) ∧ (decode cX1_place 88 = .ok (.getfield 21, 3)) ∧ (decode cX1_place 91 = .ok (.iload_n 1, 1)) ∧ (decode cX1_place 92 = .ok (.iload 5, 2)) := by decide +kernel
theorem dX1_place_76 : decode cX1_place 76 = .ok (.iconst 1, 1) := dX1_place_76g.1
theorem dX1_place_77 : decode cX1_place 77 = .ok (.iand, 1) := dX1_place_76g.2.1
theorem dX1_place_78 : decode cX1_place 78 = .ok (.ifCond .ne 57, 3) := dX1_place_76g.2.2.1
theorem dX1_place_81 : decode cX1_place 81 = .ok (.iload 6, 2) := dX1_place_76g.2.2.2.1
theorem dX1_place_83 : decode cX1_place 83 = .ok (.iconst (-1), 1) := dX1_place_76g.2.2.2.2.1
theorem dX1_place_84 : decode cX1_place 84 = .ok (.if_icmp .eq 51, 3) := dX1_place_76g.2.2.2.2.2.1
theorem dX1_place_87 : decode cX1_place 87 = .ok (.aload_n 0, 1) := dX1_place_76g.2.2.2.2.2.2.1
theorem dX1_place_88 : decode cX1_place 88 = .ok (.getfield 21, 3) := dX1_place_76g.2.2.2.2.2.2.2.1
theorem dX1_place_91 : decode cX1_place 91 = .ok (.iload_n 1, 1) := dX1_place_76g.2.2.2.2.2.2.2.2.1
theorem dX1_place_92 : decode cX1_place 92 = .ok (.iload 5, 2) := dX1_place_76g.2.2.2.2.2.2.2.2.2
theorem dX1_place_94g : (decode cX1_place 94 = .ok (.iastore, 1)) ∧ (decode cX1_place 95 = .ok (.aload_n 0, 1)) ∧ (decode cX1_place 96 = .ok (.getfield 21, 3)) ∧ (decode cX1_place 99 = .ok (.bipush 6, 2)) ∧ (decode cX1_place 101 = .ok (.iload_n 1, 1)) ∧ (decode cX1_place 102 = .ok (.iadd, 1)) ∧ (decode cX1_place 103 = .ok (.iload 6, 2)) ∧ (decode cX1_place 105 = .ok (.iastore, 1)) ∧ (decode cX1_place 106 = .ok (.aload_n 0, 1)) ∧ (decode cX1_place 107 = .ok (.iload_n 1, 1)) := by decide +kernel
theorem dX1_place_94 : decode cX1_place 94 = .ok (.iastore, 1) := dX1_place_94g.1
theorem dX1_place_95 : decode cX1_place 95 = .ok (.aload_n 0, 1) := dX1_place_94g.2.1
theorem dX1_place_96 : decode cX1_place 96 = .ok (.getfield 21, 3) := dX1_place_94g.2.2.1
theorem dX1_place_99 : decode cX1_place 99 = .ok (.bipush 6, 2) := dX1_place_94g.2.2.2.1
theorem dX1_place_101 : decode cX1_place 101 = .ok (.iload_n 1, 1) := dX1_place_94g.2.2.2.2.1
theorem dX1_place_102 : decode cX1_place 102 = .ok (.iadd, 1) := dX1_place_94g.2.2.2.2.2.1
theorem dX1_place_103 : decode cX1_place 103 = .ok (.iload 6, 2) := dX1_place_94g.2.2.2.2.2.2.1
theorem dX1_place_105 : decode cX1_place 105 = .ok (.iastore, 1) := dX1_place_94g.2.2.2.2.2.2.2.1
theorem dX1_place_106 : decode cX1_place 106 = .ok (.aload_n 0, 1) := dX1_place_94g.2.2.2.2.2.2.2.2.1
theorem dX1_place_107 : decode cX1_place 107 = .ok (.iload_n 1, 1) := dX1_place_94g.2.2.2.2.2.2.2.2.2
theorem dX1_place_108g : (decode cX1_place 108 = .ok (.iconst 1, 1)) ∧ (decode cX1_place 109 = .ok (.iadd, 1)) ∧ (decode cX1_place 110 = .ok (.iload_n 2, 1)) ∧ (decode cX1_place 111 = .ok (.iconst 1, 1)) ∧ (decode cX1_place 112 = .ok (.iload 5, 2)) ∧ (decode cX1_place 114 = .ok (.ishl, 1)) ∧ (decode cX1_place 115 = .ok (.ior, 1)) ∧ (decode cX1_place 116 = .ok (.iload 6, 2)) ∧ (decode cX1_place 118 = .ok (.aload_n 0, 1)) ∧ (decode cX1_place 119 = .ok (.getfield 38, 3)) := by decide +kernel
theorem dX1_place_108 : decode cX1_place 108 = .ok (.iconst 1, 1) := dX1_place_108g.1
theorem dX1_place_109 : decode cX1_place 109 = .ok (.iadd, 1) := dX1_place_108g.2.1
theorem dX1_place_110 : decode cX1_place 110 = .ok (.iload_n 2, 1) := dX1_place_108g.2.2.1
theorem dX1_place_111 : decode cX1_place 111 = .ok (.iconst 1, 1) := dX1_place_108g.2.2.2.1
theorem dX1_place_112 : decode cX1_place 112 = .ok (.iload 5, 2) := dX1_place_108g.2.2.2.2.1
theorem dX1_place_114 : decode cX1_place 114 = .ok (.ishl, 1) := dX1_place_108g.2.2.2.2.2.1
theorem dX1_place_115 : decode cX1_place 115 = .ok (.ior, 1) := dX1_place_108g.2.2.2.2.2.2.1
theorem dX1_place_116 : decode cX1_place 116 = .ok (.iload 6, 2) := dX1_place_108g.2.2.2.2.2.2.2.1
theorem dX1_place_118 : decode cX1_place 118 = .ok (.aload_n 0, 1) := dX1_place_108g.2.2.2.2.2.2.2.2.1
theorem dX1_place_119 : decode cX1_place 119 = .ok (.getfield 38, 3) := dX1_place_108g.2.2.2.2.2.2.2.2.2
theorem dX1_place_122g : (decode cX1_place 122 = .ok (.getfield 93, 3)) ∧ (decode cX1_place 125 = .ok (.iload 5, 2)) ∧ (decode cX1_place 127 = .ok (.iconst 1, 1)) ∧ (decode cX1_place 128 = .ok (.invokevirtual 66, 3)) ∧ (decode cX1_place 131 = .ok (.iadd, 1)) ∧ (decode cX1_place 132 = .ok (.invokevirtual 108, 3)) ∧ (decode cX1_place 135 = .ok (.iinc 5 1, 3)) ∧ (decode cX1_place 138 = .ok (.goto (-105), 3)) ∧ (decode cX1_place 141 = .ok (.return_, 1)) := by decide +kernel
theorem dX1_place_122 : decode cX1_place 122 = .ok (.getfield 93, 3) := dX1_place_122g.1
theorem dX1_place_125 : decode cX1_place 125 = .ok (.iload 5, 2) := dX1_place_122g.2.1
theorem dX1_place_127 : decode cX1_place 127 = .ok (.iconst 1, 1) := dX1_place_122g.2.2.1
theorem dX1_place_128 : decode cX1_place 128 = .ok (.invokevirtual 66, 3) := dX1_place_122g.2.2.2.1
theorem dX1_place_131 : decode cX1_place 131 = .ok (.iadd, 1) := dX1_place_122g.2.2.2.2.1
theorem dX1_place_132 : decode cX1_place 132 = .ok (.invokevirtual 108, 3) := dX1_place_122g.2.2.2.2.2.1
theorem dX1_place_135 : decode cX1_place 135 = .ok (.iinc 5 1, 3) := dX1_place_122g.2.2.2.2.2.2.1
theorem dX1_place_138 : decode cX1_place 138 = .ok (.goto (-105), 3) := dX1_place_122g.2.2.2.2.2.2.2.1
theorem dX1_place_141 : decode cX1_place 141 = .ok (.return_, 1) := dX1_place_122g.2.2.2.2.2.2.2.2
set_option maxHeartbeats 4000000 in
set_option maxRecDepth 100000 in
theorem c_X1_place (l : Launch) (E : Nat → Nat) (D : va_G) (G : th_G) (k : Nat) : ∀ (h0 : Nat) (hG0 : G h0 = some (11, 0)) (x1 x2 x3 : Int32) (_ : (0 : Int) ≤ x1.toInt) (_ : (6 : Int) - x1.toInt ≤ (k : Int)), Met l yX1_place (tb (.code yX1_place cX1_place 7 none)) (rm (2 + k)) (va_Pc [.ref h0, .int x1, .int x2, .int x3] (th_P E D G)) (QV E D G) 0 0 (th_A G) := by
  induction k using Nat.strongRecOn with
  | ind k ih =>
  intro h0 hG0 x1 x2 x3 hx1 hk
  refine Met.ofW (cc := cX1_place) (maxL := 7) (ret := none) (by decide) rfl ?_
  intro p e s m args below meth c s₁ B hml hv
  obtain ⟨hav, hI, hN, hK⟩ := hv
  have hx := B.exec
  have hb := B.bytes
  have hr := B.returns
  have hts := atoms_spec (ws := tb (.code yX1_place cX1_place 7 none)) B.pre
  have hown : s.vm.findClass RX1 = some m.cls := findClass_of_methodNamed B.named
  have hlocks := B.notSynchronized
  have hS : va_S (th_A G) s.heap s.heap [] := va_S.rf
  have hl := lv_entry ([.ref h0, .int x1, .int x2, .int x3]) (n := 7) (Nat.le_of_ble_eq_true rfl)
  rw [show entryFrame m args 7 = entryFrame m ([.ref h0, .int x1, .int x2, .int x3] : List Value).toArray 7 from by rw [hav], lg_entry_eq]
  generalize (lg_sl ([.ref h0, .int x1, .int x2, .int x3]) ++ List.replicate (7 - (lg_sl ([.ref h0, .int x1, .int x2, .int x3])).length) Slot.unset).toArray = ls at hl ⊢
  have hl : lv_has ls 7 [(0, .ref h0), (1, .int x1), (2, .int x2), (3, .int x3)] := hl
  generalize hR : (headSpec (tb (.code yX1_place cX1_place 7 none)) (rm (2 + k))).room = R
  have hR := hR.symm
  generalize hQ : MQ below (QV E D G) args s 0 0 (th_A G) = QF
  have hQ := hQ.symm
  have J_33 : ∀ (nn : Nat) (H : Heap) (locs : List Loc) (ls : Array Slot) (v3055 : Int32) (v3056 : Int32), (Int.toNat (6 - v3055.toInt) = nn) → lv_has ls 7 [(5, .int v3055), (4, .int v3056), (0, .ref h0), (1, .int x1), (2, .int x2), (3, .int x3)] → ((0 : Int) ≤ v3055.toInt ∧ v3055.toInt ≤ 6) → ((1 : Int) ≤ v3056.toInt ∧ v3056.toInt ≤ 6) → ((0 : Int) ≤ x1.toInt ∧ x1.toInt ≤ 5) → th_I (okC E) D G [] H → va_S (th_A G) s.heap H locs → W p l e R s m args below meth c H locs 0 0 QF (F0 m 33 ls []) := by
    intro nn
    induction nn using Nat.strongRecOn with
    | ind nn ih_33 =>
      intro H locs ls v3055 v3056 hm hl k3057 k3058 k3059 hI hS
      have J_70 : ∀ (H : Heap) (locs : List Loc) (ls : Array Slot) (v3062 : Int32), lv_has ls 7 [(5, .int v3055), (4, .int v3056), (0, .ref h0), (1, .int x1), (2, .int x2), (3, .int x3)] → ((0 : Int) ≤ v3055.toInt ∧ v3055.toInt ≤ 5) → th_I (okC E) D G [] H → va_S (th_A G) s.heap H locs → W p l e R s m args below meth c H locs 0 0 QF (F0 m 70 ls [.int v3062]) := by
        intro H locs ls v3062 hl k3063 hI hS
        refine lv_istore (lv' := [(6, .int v3062), (5, .int v3055), (4, .int v3056), (0, .ref h0), (1, .int x1), (2, .int x2), (3, .int x3)]) hx hb dX1_place_70 hl (by decide) rfl (fun ls hl => ?_)
        refine lv_iload_n hx hb dX1_place_72 rfl (lv_at hl 5 rfl) ?_
        refine lv_iload hx hb dX1_place_73 (lv_at hl 1 rfl) ?_
        refine lv_ishr hx hb dX1_place_75 ?_
        refine lv_topi (fun v3064 e3065 => ?_)
        refine lv_iconst (v := 1) hx hb dX1_place_76 (by decide) ?_
        refine lv_iand hx hb dX1_place_77 ?_
        refine lv_topi (fun v3066 e3067 => ?_)
        have tv3066 := iv_andr (m := 1) (M := 1) e3067 (by decide) (by decide)
        refine lv_if_ne (tgt := 135) hx hb dX1_place_78 (by decide) (fun c3068 => ?_) (fun c3068 => ?_)
        · skip
          have k3069 := iv_ne (X := v3066.toInt) (Y := (0)) rfl (by decide) c3068
          obtain ⟨v3070, e3071⟩ : ∃ y : Int32, y = v3055 + (1) := ⟨_, rfl⟩
          have tv3070 : v3070.toInt = v3055.toInt + (1) := iv_add rfl (by decide) e3071 (by omega) (by omega)
          refine lv_iinc (v := v3070) (lv' := [(5, .int v3070), (6, .int v3062), (4, .int v3056), (0, .ref h0), (1, .int x1), (2, .int x2), (3, .int x3)]) hx hb dX1_place_135 hl (k := 1) rfl (by rw [e3071]; rfl) (by decide) rfl (fun ls hl => ?_)
          refine lv_goto (tgt := 33) hx hb dX1_place_138 (by decide) ?_
          exact ih_33 _ (by omega) H locs ls v3070 v3056 rfl (lv_sub hl [0, 2, 3, 4, 5, 6] rfl) ⟨by omega, by omega⟩ ⟨by omega, by omega⟩ ⟨by omega, by omega⟩ hI hS
        · skip
          have k3072 := iv_eq (X := v3066.toInt) (Y := (0)) rfl (by decide) c3068
          refine lv_iload hx hb dX1_place_81 (lv_at hl 0 rfl) ?_
          refine lv_iconst (v := (-1)) hx hb dX1_place_83 (by decide) ?_
          have k3073 := iv_lo v3062
          have k3074 := iv_hi v3062
          refine lv_icmp_eq (tgt := 135) hx hb dX1_place_84 (by decide) (fun c3075 => ?_) (fun c3075 => ?_)
          · skip
            have k3076 := iv_eq (X := v3062.toInt) (Y := (-1)) rfl (by decide) c3075
            obtain ⟨v3077, e3078⟩ : ∃ y : Int32, y = v3055 + (1) := ⟨_, rfl⟩
            have tv3077 : v3077.toInt = v3055.toInt + (1) := iv_add rfl (by decide) e3078 (by omega) (by omega)
            refine lv_iinc (v := v3077) (lv' := [(5, .int v3077), (6, .int v3062), (4, .int v3056), (0, .ref h0), (1, .int x1), (2, .int x2), (3, .int x3)]) hx hb dX1_place_135 hl (k := 1) rfl (by rw [e3078]; rfl) (by decide) rfl (fun ls hl => ?_)
            refine lv_goto (tgt := 33) hx hb dX1_place_138 (by decide) ?_
            exact ih_33 _ (by omega) H locs ls v3077 v3056 rfl (lv_sub hl [0, 2, 3, 4, 5, 6] rfl) ⟨by omega, by omega⟩ ⟨by omega, by omega⟩ ⟨by omega, by omega⟩ hI hS
          · skip
            have k3079 := iv_ne (X := v3062.toInt) (Y := (-1)) rfl (by decide) c3075
            refine lv_aload_n hx hb dX1_place_87 rfl (lv_at hl 3 rfl) ?_
            obtain ⟨a3080, a3082, a3084, a3086, a3088, a3090, a3092, a3094, w3096, w3097, w3098, hO, hq3081, hq3083, hq3085, hq3087, hq3089, hq3091, hq3093, hq3095⟩ := op_11 hI hG0 List.not_mem_nil
            have hI := th_I.weak (a := h0) hI
            refine th_get hx hb hts inT1 hown hK hO rfl 6 (by decide) (hts _ (tb_c wd_242)) rfl rfl dX1_place_88 ?_
            refine lv_iload_n hx hb dX1_place_91 rfl (lv_at hl 4 rfl) ?_
            refine lv_iload hx hb dX1_place_92 (lv_at hl 1 rfl) ?_
            obtain ⟨_, hA3099⟩ := op_0 hI hq3093 (th_ne hG0 hq3093 (show (11 : Nat) ≠ 0 by decide))
            refine th_iast hx hb hK hA3099 0 rfl hS ⟨_, hq3093⟩ (iv_in (X := x1.toInt) rfl (by omega) (by omega)) dX1_place_94 (fun H locs hA3099 oq hS => ?_)
            have hI := th_I.put hI hq3093 hA3099 ok_0 oq
            have hO := hO.kept (oq _ (fun z => th_ne hG0 hq3093 (show (11 : Nat) ≠ 0 by decide) (List.mem_singleton.mpr z.symm)))
            refine lv_aload_n hx hb dX1_place_95 rfl (lv_at hl 3 rfl) ?_
            refine th_get hx hb hts inT1 hown hK hO rfl 6 (by decide) (hts _ (tb_c wd_242)) rfl rfl dX1_place_96 ?_
            refine lv_bipush (v := 6) hx hb dX1_place_99 (by decide) ?_
            refine lv_iload_n hx hb dX1_place_101 rfl (lv_at hl 4 rfl) ?_
            refine lv_iadd hx hb dX1_place_102 ?_
            refine lv_topi (fun v3100 e3101 => ?_)
            have tv3100 : v3100.toInt = (6) + x1.toInt := iv_add (by decide) rfl e3101 (by omega) (by omega)
            refine lv_iload hx hb dX1_place_103 (lv_at hl 0 rfl) ?_
            obtain ⟨_, hA3102⟩ := op_0 hI hq3093 (th_ne hG0 hq3093 (show (11 : Nat) ≠ 0 by decide))
            refine th_iast hx hb hK hA3102 0 rfl hS ⟨_, hq3093⟩ (iv_in (X := v3100.toInt) rfl (by omega) (by omega)) dX1_place_105 (fun H locs hA3102 oq hS => ?_)
            have hI := th_I.put hI hq3093 hA3102 ok_0 oq
            have hO := hO.kept (oq _ (fun z => th_ne hG0 hq3093 (show (11 : Nat) ≠ 0 by decide) (List.mem_singleton.mpr z.symm)))
            refine lv_aload_n hx hb dX1_place_106 rfl (lv_at hl 3 rfl) ?_
            refine lv_iload_n hx hb dX1_place_107 rfl (lv_at hl 4 rfl) ?_
            refine lv_iconst (v := 1) hx hb dX1_place_108 (by decide) ?_
            refine lv_iadd hx hb dX1_place_109 ?_
            refine lv_topi (fun v3103 e3104 => ?_)
            have tv3103 : v3103.toInt = x1.toInt + (1) := iv_add rfl (by decide) e3104 (by omega) (by omega)
            refine lv_iload_n hx hb dX1_place_110 rfl (lv_at hl 5 rfl) ?_
            refine lv_iconst (v := 1) hx hb dX1_place_111 (by decide) ?_
            refine lv_iload hx hb dX1_place_112 (lv_at hl 1 rfl) ?_
            refine lv_ishl hx hb dX1_place_114 ?_
            refine lv_topi (fun v3105 e3106 => ?_)
            refine lv_ior hx hb dX1_place_115 ?_
            refine lv_topi (fun v3107 e3108 => ?_)
            refine lv_iload hx hb dX1_place_116 (lv_at hl 0 rfl) ?_
            refine lv_aload_n hx hb dX1_place_118 rfl (lv_at hl 3 rfl) ?_
            refine th_get hx hb hts inT1 hown hK hO rfl 0 (by decide) (hts _ (tb_c wd_236)) rfl rfl dX1_place_119 ?_
            have hI := th_I.close hI hG0 hO (ok_11 hq3081 hq3083 hq3085 hq3087 hq3089 hq3091 hq3093 hq3095)
            obtain ⟨a3109, a3111, a3113, a3115, a3117, a3119, a3121, a3123, a3125, a3127, w3129, w3132, w3133, w3134, hO, hq3110, hq3112, hq3114, hq3116, hq3118, hq3120, hq3122, hq3124, hq3126, hq3128, ⟨k3130, k3131⟩, k3135⟩ := op_6 hI hq3081 List.not_mem_nil
            have hI := th_I.weak (a := a3080) hI
            refine th_getN hx hb hts inT6 hown hK hN hO rfl 7 (by decide) wn_76 rfl rfl dX1_place_122 ?_
            refine lv_iload hx hb dX1_place_125 (lv_at hl 1 rfl) ?_
            refine lv_iconst (v := 1) hx hb dX1_place_127 (by decide) ?_
            have hI := th_I.close hI hq3081 hO (ok_6 hq3110 hq3112 hq3114 hq3116 hq3118 hq3120 hq3122 hq3124 hq3126 hq3128 ⟨by omega, by omega⟩ k3135)
            refine th_cVi (As := [.int v3055, .int 1]) (rest := [.int v3062, .int v3107, .int v3103, .ref h0]) (n := 2) (d := 0) ⟨hx, hb, hml, hown, hts⟩ (c_X4_at l E D G a3123 (6) hq3124 v3055 1) wd_925 wd_519 wd_520 wd_3 wd_521 (by decide +kernel) ⟨by rw [hR]; show 0 + 1 ≤ 2 + k; omega, by rw [hR]; show 8 + (3 + 11) + 40 * (0) ≤ 40 * (2 + k); omega⟩ hI hN hK hS (rc_4 hI hq3124 List.not_mem_nil) rfl rfl hl.1 rfl (Nat.le_of_ble_eq_true rfl) dX1_place_128 ⟨Nat.zero_le _, Nat.zero_le _⟩ (fun r3136 H locs hp hI hS => ?_)
            refine lv_iadd hx hb dX1_place_131 ?_
            refine lv_topi (fun v3137 e3138 => ?_)
            try have tv3137 : v3137.toInt = v3062.toInt + r3136.toInt := iv_add rfl rfl e3138 (by omega) (by omega)
            refine th_cVv (As := [.int v3103, .int v3107, .int v3137]) (rest := []) (n := 3) (d := (2 + (k - 1))) ⟨hx, hb, hml, hown, hts⟩ (ih (k - 1) (by omega) h0 hG0 v3103 v3107 v3137 (by omega) (by omega)) wd_1070 wd_1072 wp_34 wd_9 wd_1073 (by decide +kernel) ⟨by rw [hR]; show (2 + (k - 1)) + 1 ≤ 2 + k; omega, by rw [hR]; show 8 + (7 + 11) + 40 * ((2 + (k - 1))) ≤ 40 * (2 + k); omega⟩ hI hN hK hS (rc_11 hI hG0 List.not_mem_nil) rfl rfl hl.1 rfl (Nat.le_of_ble_eq_true rfl) dX1_place_132 ⟨Nat.zero_le _, Nat.zero_le _⟩ (fun H locs hI hS => ?_)
            obtain ⟨v3140, e3141⟩ : ∃ y : Int32, y = v3055 + (1) := ⟨_, rfl⟩
            have tv3140 : v3140.toInt = v3055.toInt + (1) := iv_add rfl (by decide) e3141 (by omega) (by omega)
            refine lv_iinc (v := v3140) (lv' := [(5, .int v3140), (6, .int v3062), (4, .int v3056), (0, .ref h0), (1, .int x1), (2, .int x2), (3, .int x3)]) hx hb dX1_place_135 hl (k := 1) rfl (by rw [e3141]; rfl) (by decide) rfl (fun ls hl => ?_)
            refine lv_goto (tgt := 33) hx hb dX1_place_138 (by decide) ?_
            exact ih_33 _ (by omega) H locs ls v3140 v3056 rfl (lv_sub hl [0, 2, 3, 4, 5, 6] rfl) ⟨by omega, by omega⟩ ⟨by omega, by omega⟩ ⟨by omega, by omega⟩ hI hS
      refine lv_iload hx hb dX1_place_33 (lv_at hl 0 rfl) ?_
      refine lv_iload hx hb dX1_place_35 (lv_at hl 1 rfl) ?_
      refine lv_icmp_ge (tgt := 141) hx hb dX1_place_37 (by decide) (fun c3142 => ?_) (fun c3142 => ?_)
      · skip
        have k3143 := iv_le (X := v3056.toInt) (Y := v3055.toInt) rfl rfl c3142
        rw [hQ]
        exact W.vret hx hb hr (fun t ht hW => ⟨⟨(), rfl, trivial, by rw [ht]; exact hI, hN.warm hW, va_K.moved hW.alike hK⟩, hS.F ht⟩) hS.2.2 dX1_place_141
      · skip
        have k3144 := iv_nle (X := v3056.toInt) (Y := v3055.toInt) rfl rfl c3142
        refine lv_iload hx hb dX1_place_40 (lv_at hl 0 rfl) ?_
        refine lv_bipush (v := 6) hx hb dX1_place_42 (by decide) ?_
        refine lv_icmp_ge (tgt := 141) hx hb dX1_place_44 (by decide) (fun c3145 => ?_) (fun c3145 => ?_)
        · skip
          have k3146 := iv_le (X := (6)) (Y := v3055.toInt) (by decide) rfl c3145
          exfalso; omega
        · skip
          have k3147 := iv_nle (X := (6)) (Y := v3055.toInt) (by decide) rfl c3145
          refine lv_iload_n hx hb dX1_place_47 rfl (lv_at hl 5 rfl) ?_
          refine th_cSN (As := [.int x3]) (rest := []) (n := 1) (d := 0) ⟨hx, hb, hml, hown, hts⟩ (c_X11_isMoment l H x3) wn_1079 wd_827 wd_1 wd_828 (by decide +kernel) ⟨by rw [hR]; show 0 + 1 ≤ 2 + k; omega, by rw [hR]; show 8 + (1 + 11) + 40 * (0) ≤ 40 * (2 + k); omega⟩ hN hS rfl hl.1 rfl (Nat.le_of_ble_eq_true rfl) dX1_place_48 ⟨Nat.zero_le _, Nat.zero_le _⟩ (fun r3148 locs hp hS => ?_)
          rcases hp with ⟨rfl, hp⟩ | ⟨rfl, hp⟩
          · skip
            try simp only [rg, not_and, Int.not_le] at hp
            have hp3149 := hp
            refine lv_if_eq (tgt := 69) hx hb dX1_place_51 (by decide) (fun c => absurd c (by decide)) (fun _ => ?_)
            refine lv_aload_n hx hb dX1_place_54 rfl (lv_at hl 2 rfl) ?_
            obtain ⟨a3150, a3152, a3154, a3156, a3158, a3160, a3162, a3164, w3166, w3167, w3168, hO, hq3151, hq3153, hq3155, hq3157, hq3159, hq3161, hq3163, hq3165⟩ := op_11 hI hG0 List.not_mem_nil
            have hI := th_I.weak (a := h0) hI
            refine th_get hx hb hts inT1 hown hK hO rfl 5 (by decide) (hts _ (tb_c wd_241)) rfl rfl dX1_place_55 ?_
            refine lv_iload hx hb dX1_place_58 (lv_at hl 0 rfl) ?_
            refine lv_bipush (v := 97) hx hb dX1_place_60 (by decide) ?_
            refine lv_imul hx hb dX1_place_62 ?_
            refine lv_topi (fun v3169 e3170 => ?_)
            have tv3169 : v3169.toInt = v3055.toInt * (97) := iv_mul rfl (by decide) e3170 (by omega) (by omega)
            refine lv_iload_n hx hb dX1_place_63 rfl (lv_at hl 5 rfl) ?_
            refine lv_iadd hx hb dX1_place_64 ?_
            refine lv_topi (fun v3171 e3172 => ?_)
            have tv3171 : v3171.toInt = v3169.toInt + x3.toInt := iv_add rfl rfl e3172 (by omega) (by omega)
            obtain ⟨_, hA3173⟩ := op_0 hI hq3161 (th_ne hG0 hq3161 (show (11 : Nat) ≠ 0 by decide))
            refine th_iald hx hb hK hA3173 0 rfl (iv_in (X := v3171.toInt) rfl (by omega) (by omega)) dX1_place_65 (fun v3174 _ => ?_)
            refine lv_goto (tgt := 70) hx hb dX1_place_66 (by decide) ?_
            have hI := th_I.close hI hG0 hO (ok_11 hq3151 hq3153 hq3155 hq3157 hq3159 hq3161 hq3163 hq3165)
            exact J_70 H locs ls v3174 (lv_sub hl [0, 1, 2, 3, 4, 5] rfl) ⟨by omega, by omega⟩ hI hS
          · skip
            try simp only [rg, not_and, Int.not_le] at hp
            have hp3175 := hp
            refine lv_if_eq (tgt := 69) hx hb dX1_place_51 (by decide) (fun _ => ?_) (fun c => absurd c (by decide))
            refine lv_iconst (v := (-1)) hx hb dX1_place_69 (by decide) ?_
            exact J_70 H locs ls (-1) (lv_sub hl [0, 1, 2, 3, 4, 5] rfl) ⟨by omega, by omega⟩ hI hS
  have J_24 : ∀ (H : Heap) (locs : List Loc) (ls : Array Slot) (v3176 : Int32), lv_has ls 7 [(4, .int v3176), (0, .ref h0), (1, .int x1), (2, .int x2), (3, .int x3)] → ((0 : Int) ≤ v3176.toInt ∧ v3176.toInt ≤ 6) → ((0 : Int) ≤ x1.toInt) → th_I (okC E) D G [] H → va_S (th_A G) s.heap H locs → W p l e R s m args below meth c H locs 0 0 QF (F0 m 24 ls []) := by
    intro H locs ls v3176 hl k3177 k3178 hI hS
    refine lv_aload_n hx hb dX1_place_24 rfl (lv_at hl 1 rfl) ?_
    refine lv_iload_n hx hb dX1_place_25 rfl (lv_at hl 4 rfl) ?_
    refine th_cVv (As := [.int x3]) (rest := []) (n := 1) (d := 1) ⟨hx, hb, hml, hown, hts⟩ (c_X1_finish l E D G h0 hG0 x3) wd_1074 wd_1076 wp_35 wd_9 wd_1077 (by decide +kernel) ⟨by rw [hR]; show 1 + 1 ≤ 2 + k; omega, by rw [hR]; show 8 + (2 + 11) + 40 * (1) ≤ 40 * (2 + k); omega⟩ hI hN hK hS (rc_11 hI hG0 List.not_mem_nil) rfl rfl hl.1 rfl (Nat.le_of_ble_eq_true rfl) dX1_place_26 ⟨Nat.zero_le _, Nat.zero_le _⟩ (fun H locs hI hS => ?_)
    rw [hQ]
    exact W.vret hx hb hr (fun t ht hW => ⟨⟨(), rfl, trivial, by rw [ht]; exact hI, hN.warm hW, va_K.moved hW.alike hK⟩, hS.F ht⟩) hS.2.2 dX1_place_29
  refine lv_aload_n hx hb dX1_place_0 rfl (lv_at hl 0 rfl) ?_
  obtain ⟨a3180, a3182, a3184, a3186, a3188, a3190, a3192, a3194, w3196, w3197, w3198, hO, hq3181, hq3183, hq3185, hq3187, hq3189, hq3191, hq3193, hq3195⟩ := op_11 hI hG0 List.not_mem_nil
  have hI := th_I.weak (a := h0) hI
  refine th_get hx hb hts inT1 hown hK hO rfl 0 (by decide) (hts _ (tb_c wd_236)) rfl rfl dX1_place_1 ?_
  have hI := th_I.close hI hG0 hO (ok_11 hq3181 hq3183 hq3185 hq3187 hq3189 hq3191 hq3193 hq3195)
  obtain ⟨a3199, a3201, a3203, a3205, a3207, a3209, a3211, a3213, a3215, a3217, w3219, w3222, w3223, w3224, hO, hq3200, hq3202, hq3204, hq3206, hq3208, hq3210, hq3212, hq3214, hq3216, hq3218, ⟨k3220, k3221⟩, k3225⟩ := op_6 hI hq3181 List.not_mem_nil
  have hI := th_I.weak (a := a3180) hI
  refine th_getN hx hb hts inT6 hown hK hN hO rfl 7 (by decide) wn_76 rfl rfl dX1_place_4 ?_
  have hI := th_I.close hI hq3181 hO (ok_6 hq3200 hq3202 hq3204 hq3206 hq3208 hq3210 hq3212 hq3214 hq3216 hq3218 ⟨by omega, by omega⟩ k3225)
  obtain ⟨a3227, w3229, hO, hq3228, ⟨k3230, k3231⟩, k3232⟩ := op_4 hI hq3214 List.not_mem_nil
  have hI := th_I.weak (a := a3213) hI
  have k3233 : (nI 6).toInt = ((6 : Nat) : Int) := nI_toInt (by omega)
  refine th_cVs (As := []) (rest := []) (n := 0) (d := 0) ⟨hx, hb, hml, hown, hts⟩ (c_X4_size l E D s.heap a3213 6 a3227 w3229 hO (by omega) (by omega) (by omega)) wd_920 wd_507 wd_508 wd_3 wd_509 (by decide +kernel) ⟨by rw [hR]; show 0 + 1 ≤ 2 + k; omega, by rw [hR]; show 8 + (1 + 11) + 40 * (0) ≤ 40 * (2 + k); omega⟩ hN hK hS ⟨_, hO⟩ rfl rfl hl.1 rfl (Nat.le_of_ble_eq_true rfl) dX1_place_7 ⟨Nat.zero_le _, Nat.zero_le _⟩ (fun r3226 locs hp hS => ?_)
  have hp := hp.symm
  subst hp
  refine lv_istore (lv' := [(4, .int w3229), (0, .ref h0), (1, .int x1), (2, .int x2), (3, .int x3)]) hx hb dX1_place_10 hl (by decide) rfl (fun ls hl => ?_)
  refine lv_iload_n hx hb dX1_place_12 rfl (lv_at hl 2 rfl) ?_
  refine lv_iload hx hb dX1_place_13 (lv_at hl 0 rfl) ?_
  have k3234 := iv_lo x1
  have k3235 := iv_hi x1
  refine lv_icmp_ge (tgt := 24) hx hb dX1_place_15 (by decide) (fun c3236 => ?_) (fun c3236 => ?_)
  · skip
    have k3237 := iv_le (X := w3229.toInt) (Y := x1.toInt) rfl rfl c3236
    have hI := th_I.close hI hq3214 hO (ok_4 hq3228 ⟨by omega, by omega⟩ (by omega))
    exact J_24 s.heap locs ls w3229 (lv_sub hl [0, 1, 2, 3, 4] rfl) ⟨by omega, by omega⟩ (by omega) hI hS
  · skip
    have k3238 := iv_nle (X := w3229.toInt) (Y := x1.toInt) rfl rfl c3236
    refine lv_iload_n hx hb dX1_place_18 rfl (lv_at hl 2 rfl) ?_
    refine lv_bipush (v := 6) hx hb dX1_place_19 (by decide) ?_
    refine lv_icmp_lt (tgt := 30) hx hb dX1_place_21 (by decide) (fun c3239 => ?_) (fun c3239 => ?_)
    · skip
      have k3240 := iv_lt (X := x1.toInt) (Y := (6)) rfl (by decide) c3239
      refine lv_iconst (v := 0) hx hb dX1_place_30 (by decide) ?_
      refine lv_istore (lv' := [(5, .int 0), (4, .int w3229), (0, .ref h0), (1, .int x1), (2, .int x2), (3, .int x3)]) hx hb dX1_place_31 hl (by decide) rfl (fun ls hl => ?_)
      have hI := th_I.close hI hq3214 hO (ok_4 hq3228 ⟨by omega, by omega⟩ (by omega))
      have zl : (0 : Int32).toInt = 0 := by decide
      exact J_33 _ s.heap locs ls 0 w3229 rfl (lv_sub hl [0, 1, 2, 3, 4, 5] rfl) ⟨by decide, by decide⟩ ⟨by omega, by omega⟩ ⟨by omega, by omega⟩ hI hS
    · skip
      have k3241 := iv_nlt (X := x1.toInt) (Y := (6)) rfl (by decide) c3239
      exfalso; omega
theorem dX1_wash_0g : (decode cX1_wash 0 = .ok (.aload_n 0, 1)) ∧ (decode cX1_wash 1 = .ok (.iconst (-1), 1)) ∧ (decode cX1_wash 2 = .ok (.putfield 27, 3)) ∧ (decode cX1_wash 5 = .ok (.aload_n 0, 1)) ∧ (decode cX1_wash 6 = .ok (.iconst 0, 1)) ∧ (decode cX1_wash 7 = .ok (.putfield 31, 3)) ∧ (decode cX1_wash 10 = .ok (.aload_n 0, 1)) ∧ (decode cX1_wash 11 = .ok (.invokevirtual 101, 3)) ∧ (decode cX1_wash 14 = .ok (.iconst 0, 1)) ∧ (decode cX1_wash 15 = .ok (.istore_n 1, 1)) := by decide +kernel
theorem dX1_wash_0 : decode cX1_wash 0 = .ok (.aload_n 0, 1) := dX1_wash_0g.1
theorem dX1_wash_1 : decode cX1_wash 1 = .ok (.iconst (-1), 1) := dX1_wash_0g.2.1
theorem dX1_wash_2 : decode cX1_wash 2 = .ok (.putfield 27, 3) := dX1_wash_0g.2.2.1
theorem dX1_wash_5 : decode cX1_wash 5 = .ok (.aload_n 0, 1) := dX1_wash_0g.2.2.2.1
theorem dX1_wash_6 : decode cX1_wash 6 = .ok (.iconst 0, 1) := dX1_wash_0g.2.2.2.2.1
theorem dX1_wash_7 : decode cX1_wash 7 = .ok (.putfield 31, 3) := dX1_wash_0g.2.2.2.2.2.1
theorem dX1_wash_10 : decode cX1_wash 10 = .ok (.aload_n 0, 1) := dX1_wash_0g.2.2.2.2.2.2.1
theorem dX1_wash_11 : decode cX1_wash 11 = .ok (.invokevirtual 101, 3) := dX1_wash_0g.2.2.2.2.2.2.2.1
theorem dX1_wash_14 : decode cX1_wash 14 = .ok (.iconst 0, 1) := dX1_wash_0g.2.2.2.2.2.2.2.2.1
theorem dX1_wash_15 : decode cX1_wash 15 = .ok (.istore_n 1, 1) := dX1_wash_0g.2.2.2.2.2.2.2.2.2
theorem dX1_wash_16g : (decode cX1_wash 16 = .ok (.iload_n 1, 1)) ∧ (decode cX1_wash 17 = .ok (.aload_n 0, 1)) ∧ (decode cX1_wash 18 = .ok (.getfield 38, 3)) ∧ (decode cX1_wash 21 = .ok (.getfield 93, 3)) ∧ (decode cX1_wash 24 = .ok (.invokevirtual 56, 3)) ∧ (decode cX1_wash 27 = .ok (.if_icmp .ge 20, 3)) ∧ (decode cX1_wash 30 = .ok (.iload_n 1, 1)) ∧ (decode cX1_wash 31 = .ok (.bipush 6, 2)) ∧ (decode cX1_wash 33 = .ok (.if_icmp .ge 14, 3)) ∧ (decode cX1_wash 36 = .ok (.aload_n 0, 1)) := by decide +kernel
theorem dX1_wash_16 : decode cX1_wash 16 = .ok (.iload_n 1, 1) := dX1_wash_16g.1
theorem dX1_wash_17 : decode cX1_wash 17 = .ok (.aload_n 0, 1) := dX1_wash_16g.2.1
theorem dX1_wash_18 : decode cX1_wash 18 = .ok (.getfield 38, 3) := dX1_wash_16g.2.2.1
theorem dX1_wash_21 : decode cX1_wash 21 = .ok (.getfield 93, 3) := dX1_wash_16g.2.2.2.1
theorem dX1_wash_24 : decode cX1_wash 24 = .ok (.invokevirtual 56, 3) := dX1_wash_16g.2.2.2.2.1
theorem dX1_wash_27 : decode cX1_wash 27 = .ok (.if_icmp .ge 20, 3) := dX1_wash_16g.2.2.2.2.2.1
theorem dX1_wash_30 : decode cX1_wash 30 = .ok (.iload_n 1, 1) := dX1_wash_16g.2.2.2.2.2.2.1
theorem dX1_wash_31 : decode cX1_wash 31 = .ok (.bipush 6, 2) := dX1_wash_16g.2.2.2.2.2.2.2.1
theorem dX1_wash_33 : decode cX1_wash 33 = .ok (.if_icmp .ge 14, 3) := dX1_wash_16g.2.2.2.2.2.2.2.2.1
theorem dX1_wash_36 : decode cX1_wash 36 = .ok (.aload_n 0, 1) := dX1_wash_16g.2.2.2.2.2.2.2.2.2
theorem dX1_wash_37g : (decode cX1_wash 37 = .ok (.iload_n 1, 1)) ∧ (decode cX1_wash 38 = .ok (.invokevirtual 104, 3)) ∧ (decode cX1_wash 41 = .ok (.iinc 1 1, 3)) ∧ (decode cX1_wash 44 = .ok (.goto (-28), 3)) ∧ (decode cX1_wash 47 = .ok (.aload_n 0, 1)) ∧ (decode cX1_wash 48 = .ok (.iconst 0, 1)) ∧ (decode cX1_wash 49 = .ok (.iconst 0, 1)) ∧ (decode cX1_wash 50 = .ok (.iconst 0, 1)) ∧ (decode cX1_wash 51 = .ok (.invokevirtual 108, 3)) ∧ (decode cX1_wash 54 = .ok (.return_, 1)) := by decide +kernel
theorem dX1_wash_37 : decode cX1_wash 37 = .ok (.iload_n 1, 1) := dX1_wash_37g.1
theorem dX1_wash_38 : decode cX1_wash 38 = .ok (.invokevirtual 104, 3) := dX1_wash_37g.2.1
theorem dX1_wash_41 : decode cX1_wash 41 = .ok (.iinc 1 1, 3) := dX1_wash_37g.2.2.1
theorem dX1_wash_44 : decode cX1_wash 44 = .ok (.goto (-28), 3) := dX1_wash_37g.2.2.2.1
theorem dX1_wash_47 : decode cX1_wash 47 = .ok (.aload_n 0, 1) := dX1_wash_37g.2.2.2.2.1
theorem dX1_wash_48 : decode cX1_wash 48 = .ok (.iconst 0, 1) := dX1_wash_37g.2.2.2.2.2.1
theorem dX1_wash_49 : decode cX1_wash 49 = .ok (.iconst 0, 1) := dX1_wash_37g.2.2.2.2.2.2.1
theorem dX1_wash_50 : decode cX1_wash 50 = .ok (.iconst 0, 1) := dX1_wash_37g.2.2.2.2.2.2.2.1
theorem dX1_wash_51 : decode cX1_wash 51 = .ok (.invokevirtual 108, 3) := dX1_wash_37g.2.2.2.2.2.2.2.2.1
theorem dX1_wash_54 : decode cX1_wash 54 = .ok (.return_, 1) := dX1_wash_37g.2.2.2.2.2.2.2.2.2
set_option maxHeartbeats 4000000 in
set_option maxRecDepth 100000 in
theorem c_X1_wash (l : Launch) (E : Nat → Nat) (D : va_G) (G : th_G) (h0 : Nat) (hG0 : G h0 = some (11, 0)) : Met l yX1_wash (tb (.code yX1_wash cX1_wash 2 none)) (rm 9) (va_Pc [.ref h0] (th_P E D G)) (QV E D G) 0 0 (th_A G) := by
  refine Met.ofW (cc := cX1_wash) (maxL := 2) (ret := none) (by decide) rfl ?_
  intro p e s m args below meth c s₁ B hml hv
  obtain ⟨hav, hI, hN, hK⟩ := hv
  have hx := B.exec
  have hb := B.bytes
  have hr := B.returns
  have hts := atoms_spec (ws := tb (.code yX1_wash cX1_wash 2 none)) B.pre
  have hown : s.vm.findClass RX1 = some m.cls := findClass_of_methodNamed B.named
  have hlocks := B.notSynchronized
  have hS : va_S (th_A G) s.heap s.heap [] := va_S.rf
  have hl := lv_entry ([.ref h0]) (n := 2) (Nat.le_of_ble_eq_true rfl)
  rw [show entryFrame m args 2 = entryFrame m ([.ref h0] : List Value).toArray 2 from by rw [hav], lg_entry_eq]
  generalize (lg_sl ([.ref h0]) ++ List.replicate (2 - (lg_sl ([.ref h0])).length) Slot.unset).toArray = ls at hl ⊢
  have hl : lv_has ls 2 [(0, .ref h0)] := hl
  generalize hR : (headSpec (tb (.code yX1_wash cX1_wash 2 none)) (rm 9)).room = R
  have hR := hR.symm
  generalize hQ : MQ below (QV E D G) args s 0 0 (th_A G) = QF
  have hQ := hQ.symm
  have J_16 : ∀ (nn : Nat) (H : Heap) (locs : List Loc) (ls : Array Slot) (v1040 : Int32), (Int.toNat (6 - v1040.toInt) = nn) → lv_has ls 2 [(1, .int v1040), (0, .ref h0)] → ((0 : Int) ≤ v1040.toInt ∧ v1040.toInt ≤ 6) → th_I (okC E) D G [] H → va_S (th_A G) s.heap H locs → W p l e R s m args below meth c H locs 0 0 QF (F0 m 16 ls []) := by
    intro nn
    induction nn using Nat.strongRecOn with
    | ind nn ih_16 =>
      intro H locs ls v1040 hm hl k1041 hI hS
      refine lv_iload_n hx hb dX1_wash_16 rfl (lv_at hl 0 rfl) ?_
      refine lv_aload_n hx hb dX1_wash_17 rfl (lv_at hl 1 rfl) ?_
      obtain ⟨a1042, a1044, a1046, a1048, a1050, a1052, a1054, a1056, w1058, w1059, w1060, hO, hq1043, hq1045, hq1047, hq1049, hq1051, hq1053, hq1055, hq1057⟩ := op_11 hI hG0 List.not_mem_nil
      have hI := th_I.weak (a := h0) hI
      refine th_get hx hb hts inT1 hown hK hO rfl 0 (by decide) (hts _ (tb_c wd_236)) rfl rfl dX1_wash_18 ?_
      have hI := th_I.close hI hG0 hO (ok_11 hq1043 hq1045 hq1047 hq1049 hq1051 hq1053 hq1055 hq1057)
      obtain ⟨a1061, a1063, a1065, a1067, a1069, a1071, a1073, a1075, a1077, a1079, w1081, w1084, w1085, w1086, hO, hq1062, hq1064, hq1066, hq1068, hq1070, hq1072, hq1074, hq1076, hq1078, hq1080, ⟨k1082, k1083⟩, k1087⟩ := op_6 hI hq1043 List.not_mem_nil
      have hI := th_I.weak (a := a1042) hI
      refine th_getN hx hb hts inT6 hown hK hN hO rfl 7 (by decide) wn_76 rfl rfl dX1_wash_21 ?_
      have hI := th_I.close hI hq1043 hO (ok_6 hq1062 hq1064 hq1066 hq1068 hq1070 hq1072 hq1074 hq1076 hq1078 hq1080 ⟨by omega, by omega⟩ k1087)
      obtain ⟨a1089, w1091, hO, hq1090, ⟨k1092, k1093⟩, k1094⟩ := op_4 hI hq1076 List.not_mem_nil
      have hI := th_I.weak (a := a1075) hI
      have k1095 : (nI 6).toInt = ((6 : Nat) : Int) := nI_toInt (by omega)
      refine th_cVs (As := []) (rest := [.int v1040]) (n := 0) (d := 0) ⟨hx, hb, hml, hown, hts⟩ (c_X4_size l E D H a1075 6 a1089 w1091 hO (by omega) (by omega) (by omega)) wd_920 wd_507 wd_508 wd_3 wd_509 (by decide +kernel) ⟨by rw [hR]; exact Nat.le_of_ble_eq_true rfl, by rw [hR]; exact Nat.le_of_ble_eq_true rfl⟩ hN hK hS ⟨_, hO⟩ rfl rfl hl.1 rfl (Nat.le_of_ble_eq_true rfl) dX1_wash_24 ⟨Nat.zero_le _, Nat.zero_le _⟩ (fun r1088 locs hp hS => ?_)
      have hp := hp.symm
      subst hp
      refine lv_icmp_ge (tgt := 47) hx hb dX1_wash_27 (by decide) (fun c1096 => ?_) (fun c1096 => ?_)
      · skip
        have k1097 := iv_le (X := w1091.toInt) (Y := v1040.toInt) rfl rfl c1096
        refine lv_aload_n hx hb dX1_wash_47 rfl (lv_at hl 1 rfl) ?_
        refine lv_iconst (v := 0) hx hb dX1_wash_48 (by decide) ?_
        refine lv_iconst (v := 0) hx hb dX1_wash_49 (by decide) ?_
        refine lv_iconst (v := 0) hx hb dX1_wash_50 (by decide) ?_
        have hI := th_I.close hI hq1076 hO (ok_4 hq1090 ⟨by omega, by omega⟩ (by omega))
        refine th_cVv (As := [.int 0, .int 0, .int 0]) (rest := []) (n := 3) (d := 8) ⟨hx, hb, hml, hown, hts⟩ (c_X1_place l E D G 6 h0 hG0 0 0 0 (by decide) (by decide)) wd_1070 wd_1072 wp_34 wd_9 wd_1073 (by decide +kernel) ⟨by rw [hR]; exact Nat.le_of_ble_eq_true rfl, by rw [hR]; exact Nat.le_of_ble_eq_true rfl⟩ hI hN hK hS (rc_11 hI hG0 List.not_mem_nil) rfl rfl hl.1 rfl (Nat.le_of_ble_eq_true rfl) dX1_wash_51 ⟨Nat.zero_le _, Nat.zero_le _⟩ (fun H locs hI hS => ?_)
        rw [hQ]
        exact W.vret hx hb hr (fun t ht hW => ⟨⟨(), rfl, trivial, by rw [ht]; exact hI, hN.warm hW, va_K.moved hW.alike hK⟩, hS.F ht⟩) hS.2.2 dX1_wash_54
      · skip
        have k1099 := iv_nle (X := w1091.toInt) (Y := v1040.toInt) rfl rfl c1096
        refine lv_iload_n hx hb dX1_wash_30 rfl (lv_at hl 0 rfl) ?_
        refine lv_bipush (v := 6) hx hb dX1_wash_31 (by decide) ?_
        refine lv_icmp_ge (tgt := 47) hx hb dX1_wash_33 (by decide) (fun c1100 => ?_) (fun c1100 => ?_)
        · skip
          have k1101 := iv_le (X := (6)) (Y := v1040.toInt) (by decide) rfl c1100
          exfalso; omega
        · skip
          have k1102 := iv_nle (X := (6)) (Y := v1040.toInt) (by decide) rfl c1100
          refine lv_aload_n hx hb dX1_wash_36 rfl (lv_at hl 1 rfl) ?_
          refine lv_iload_n hx hb dX1_wash_37 rfl (lv_at hl 0 rfl) ?_
          have hI := th_I.close hI hq1076 hO (ok_4 hq1090 ⟨by omega, by omega⟩ (by omega))
          refine th_cVv (As := [.int v1040]) (rest := []) (n := 1) (d := 1) ⟨hx, hb, hml, hown, hts⟩ (c_X1_findBegins l E D G h0 hG0 v1040 ⟨by omega, by omega⟩) wd_1066 wd_1068 wp_33 wd_9 wd_1069 (by decide +kernel) ⟨by rw [hR]; exact Nat.le_of_ble_eq_true rfl, by rw [hR]; exact Nat.le_of_ble_eq_true rfl⟩ hI hN hK hS (rc_11 hI hG0 List.not_mem_nil) rfl rfl hl.1 rfl (Nat.le_of_ble_eq_true rfl) dX1_wash_38 ⟨Nat.zero_le _, Nat.zero_le _⟩ (fun H locs hI hS => ?_)
          obtain ⟨v1104, e1105⟩ : ∃ y : Int32, y = v1040 + (1) := ⟨_, rfl⟩
          have tv1104 : v1104.toInt = v1040.toInt + (1) := iv_add rfl (by decide) e1105 (by omega) (by omega)
          refine lv_iinc (v := v1104) (lv' := [(1, .int v1104), (0, .ref h0)]) hx hb dX1_wash_41 hl (k := 0) rfl (by rw [e1105]; rfl) (by decide) rfl (fun ls hl => ?_)
          refine lv_goto (tgt := 16) hx hb dX1_wash_44 (by decide) ?_
          exact ih_16 _ (by omega) H locs ls v1104 rfl (lv_sub hl [0, 1] rfl) ⟨by omega, by omega⟩ hI hS
  refine lv_aload_n hx hb dX1_wash_0 rfl (lv_at hl 0 rfl) ?_
  refine lv_iconst (v := (-1)) hx hb dX1_wash_1 (by decide) ?_
  obtain ⟨a1106, a1108, a1110, a1112, a1114, a1116, a1118, a1120, w1122, w1123, w1124, hO, hq1107, hq1109, hq1111, hq1113, hq1115, hq1117, hq1119, hq1121⟩ := op_11 hI hG0 List.not_mem_nil
  have hI := th_I.weak (a := h0) hI
  refine th_put (ty := .int) hx hb hts inT1 tyX1 tyX1_ok nmX1 hown hK hO hS ⟨_, hG0⟩ rfl 8 (by decide) (hts _ (tb_c wd_244)) rfl rfl (by decide +kernel) rfl rfl (Nat.le_of_ble_eq_true rfl) dX1_wash_2 (fun H locs hO oq hS => ?_)
  have hI := th_I.moved hI oq
  have hO : va_at D vwCl (h0, .inr (1, [.ref a1106, .ref a1108, .ref a1110, .ref a1112, .ref a1114, .ref a1116, .ref a1118, .ref a1120, .int (-1), .int w1123, .int w1124])) H := hO
  refine lv_aload_n hx hb dX1_wash_5 rfl (lv_at hl 0 rfl) ?_
  refine lv_iconst (v := 0) hx hb dX1_wash_6 (by decide) ?_
  refine th_put (ty := .int) hx hb hts inT1 tyX1 tyX1_ok nmX1 hown hK hO hS ⟨_, hG0⟩ rfl 9 (by decide) (hts _ (tb_c wd_245)) rfl rfl (by decide +kernel) rfl rfl (Nat.le_of_ble_eq_true rfl) dX1_wash_7 (fun H locs hO oq hS => ?_)
  have hI := th_I.moved hI oq
  have hO : va_at D vwCl (h0, .inr (1, [.ref a1106, .ref a1108, .ref a1110, .ref a1112, .ref a1114, .ref a1116, .ref a1118, .ref a1120, .int (-1), .int 0, .int w1124])) H := hO
  refine lv_aload_n hx hb dX1_wash_10 rfl (lv_at hl 0 rfl) ?_
  have hI := th_I.close hI hG0 hO (ok_11 hq1107 hq1109 hq1111 hq1113 hq1115 hq1117 hq1119 hq1121)
  refine th_cVv (As := []) (rest := []) (n := 0) (d := 5) ⟨hx, hb, hml, hown, hts⟩ (c_X1_tint l E D G h0 hG0 ) wd_1062 wd_1064 wp_32 wd_9 wd_1065 (by decide +kernel) ⟨by rw [hR]; exact Nat.le_of_ble_eq_true rfl, by rw [hR]; exact Nat.le_of_ble_eq_true rfl⟩ hI hN hK hS (rc_11 hI hG0 List.not_mem_nil) rfl rfl hl.1 rfl (Nat.le_of_ble_eq_true rfl) dX1_wash_11 ⟨Nat.zero_le _, Nat.zero_le _⟩ (fun H locs hI hS => ?_)
  refine lv_iconst (v := 0) hx hb dX1_wash_14 (by decide) ?_
  refine lv_istore_n (lv' := [(1, .int 0), (0, .ref h0)]) hx hb dX1_wash_15 rfl hl (by decide) rfl (fun ls hl => ?_)
  have zl : (0 : Int32).toInt = 0 := by decide
  exact J_16 _ H locs ls 0 rfl (lv_sub hl [0, 1] rfl) ⟨by decide, by decide⟩ hI hS
theorem dX1_washing_0g : (decode cX1_washing 0 = .ok (.aload_n 0, 1)) ∧ (decode cX1_washing 1 = .ok (.getfield 34, 3)) ∧ (decode cX1_washing 4 = .ok (.ifCond .eq 12, 3)) ∧ (decode cX1_washing 7 = .ok (.aload_n 0, 1)) ∧ (decode cX1_washing 8 = .ok (.invokevirtual 90, 3)) ∧ (decode cX1_washing 11 = .ok (.aload_n 0, 1)) ∧ (decode cX1_washing 12 = .ok (.iconst 0, 1)) ∧ (decode cX1_washing 13 = .ok (.putfield 34, 3)) ∧ (decode cX1_washing 16 = .ok (.iload_n 1, 1)) ∧ (decode cX1_washing 17 = .ok (.ifCond .ne 8, 3)) := by decide +kernel
theorem dX1_washing_0 : decode cX1_washing 0 = .ok (.aload_n 0, 1) := dX1_washing_0g.1
theorem dX1_washing_1 : decode cX1_washing 1 = .ok (.getfield 34, 3) := dX1_washing_0g.2.1
theorem dX1_washing_4 : decode cX1_washing 4 = .ok (.ifCond .eq 12, 3) := dX1_washing_0g.2.2.1
theorem dX1_washing_7 : decode cX1_washing 7 = .ok (.aload_n 0, 1) := dX1_washing_0g.2.2.2.1
theorem dX1_washing_8 : decode cX1_washing 8 = .ok (.invokevirtual 90, 3) := dX1_washing_0g.2.2.2.2.1
theorem dX1_washing_11 : decode cX1_washing 11 = .ok (.aload_n 0, 1) := dX1_washing_0g.2.2.2.2.2.1
theorem dX1_washing_12 : decode cX1_washing 12 = .ok (.iconst 0, 1) := dX1_washing_0g.2.2.2.2.2.2.1
theorem dX1_washing_13 : decode cX1_washing 13 = .ok (.putfield 34, 3) := dX1_washing_0g.2.2.2.2.2.2.2.1
theorem dX1_washing_16 : decode cX1_washing 16 = .ok (.iload_n 1, 1) := dX1_washing_0g.2.2.2.2.2.2.2.2.1
theorem dX1_washing_17 : decode cX1_washing 17 = .ok (.ifCond .ne 8, 3) := dX1_washing_0g.2.2.2.2.2.2.2.2.2
theorem dX1_washing_20g : (decode cX1_washing 20 = .ok (.aload_n 0, 1)) ∧ (decode cX1_washing 21 = .ok (.getfield 27, 3)) ∧ (decode cX1_washing 24 = .ok (.ireturn, 1)) ∧ (decode cX1_washing 25 = .ok (.iload_n 1, 1)) ∧ (decode cX1_washing 26 = .ok (.iconst 1, 1)) ∧ (decode cX1_washing 27 = .ok (.if_icmp .ne 8, 3)) ∧ (decode cX1_washing 30 = .ok (.aload_n 0, 1)) ∧ (decode cX1_washing 31 = .ok (.getfield 31, 3)) ∧ (decode cX1_washing 34 = .ok (.ireturn, 1)) ∧ (decode cX1_washing 35 = .ok (.iload_n 1, 1)) := by decide +kernel
theorem dX1_washing_20 : decode cX1_washing 20 = .ok (.aload_n 0, 1) := dX1_washing_20g.1
theorem dX1_washing_21 : decode cX1_washing 21 = .ok (.getfield 27, 3) := dX1_washing_20g.2.1
theorem dX1_washing_24 : decode cX1_washing 24 = .ok (.ireturn, 1) := dX1_washing_20g.2.2.1
theorem dX1_washing_25 : decode cX1_washing 25 = .ok (.iload_n 1, 1) := dX1_washing_20g.2.2.2.1
theorem dX1_washing_26 : decode cX1_washing 26 = .ok (.iconst 1, 1) := dX1_washing_20g.2.2.2.2.1
theorem dX1_washing_27 : decode cX1_washing 27 = .ok (.if_icmp .ne 8, 3) := dX1_washing_20g.2.2.2.2.2.1
theorem dX1_washing_30 : decode cX1_washing 30 = .ok (.aload_n 0, 1) := dX1_washing_20g.2.2.2.2.2.2.1
theorem dX1_washing_31 : decode cX1_washing 31 = .ok (.getfield 31, 3) := dX1_washing_20g.2.2.2.2.2.2.2.1
theorem dX1_washing_34 : decode cX1_washing 34 = .ok (.ireturn, 1) := dX1_washing_20g.2.2.2.2.2.2.2.2.1
theorem dX1_washing_35 : decode cX1_washing 35 = .ok (.iload_n 1, 1) := dX1_washing_20g.2.2.2.2.2.2.2.2.2
theorem dX1_washing_36g : (decode cX1_washing 36 = .ok (.bipush 8, 2)) ∧ (decode cX1_washing 38 = .ok (.if_icmp .ge 9, 3)) ∧ (decode cX1_washing 41 = .ok (.iload_n 1, 1)) ∧ (decode cX1_washing 42 = .ok (.iconst 2, 1)) ∧ (decode cX1_washing 43 = .ok (.isub, 1)) ∧ (decode cX1_washing 44 = .ok (.goto 7, 3)) ∧ (decode cX1_washing 47 = .ok (.iload_n 1, 1)) ∧ (decode cX1_washing 48 = .ok (.bipush 8, 2)) ∧ (decode cX1_washing 50 = .ok (.isub, 1)) ∧ (decode cX1_washing 51 = .ok (.istore_n 2, 1)) := by decide +kernel
theorem dX1_washing_36 : decode cX1_washing 36 = .ok (.bipush 8, 2) := dX1_washing_36g.1
theorem dX1_washing_38 : decode cX1_washing 38 = .ok (.if_icmp .ge 9, 3) := dX1_washing_36g.2.1
theorem dX1_washing_41 : decode cX1_washing 41 = .ok (.iload_n 1, 1) := dX1_washing_36g.2.2.1
theorem dX1_washing_42 : decode cX1_washing 42 = .ok (.iconst 2, 1) := dX1_washing_36g.2.2.2.1
theorem dX1_washing_43 : decode cX1_washing 43 = .ok (.isub, 1) := dX1_washing_36g.2.2.2.2.1
theorem dX1_washing_44 : decode cX1_washing 44 = .ok (.goto 7, 3) := dX1_washing_36g.2.2.2.2.2.1
theorem dX1_washing_47 : decode cX1_washing 47 = .ok (.iload_n 1, 1) := dX1_washing_36g.2.2.2.2.2.2.1
theorem dX1_washing_48 : decode cX1_washing 48 = .ok (.bipush 8, 2) := dX1_washing_36g.2.2.2.2.2.2.2.1
theorem dX1_washing_50 : decode cX1_washing 50 = .ok (.isub, 1) := dX1_washing_36g.2.2.2.2.2.2.2.2.1
theorem dX1_washing_51 : decode cX1_washing 51 = .ok (.istore_n 2, 1) := dX1_washing_36g.2.2.2.2.2.2.2.2.2
theorem dX1_washing_52g : (decode cX1_washing 52 = .ok (.aload_n 0, 1)) ∧ (decode cX1_washing 53 = .ok (.getfield 27, 3)) ∧ (decode cX1_washing 56 = .ok (.iconst (-1), 1)) ∧ (decode cX1_washing 57 = .ok (.if_icmp .eq 27, 3)) ∧ (decode cX1_washing 60 = .ok (.iload_n 2, 1)) ∧ (decode cX1_washing 61 = .ok (.ifCond .lt 23, 3)) ∧ (decode cX1_washing 64 = .ok (.iload_n 2, 1)) ∧ (decode cX1_washing 65 = .ok (.aload_n 0, 1)) ∧ (decode cX1_washing 66 = .ok (.getfield 38, 3)) ∧ (decode cX1_washing 69 = .ok (.getfield 93, 3)) := by decide +kernel
theorem dX1_washing_52 : decode cX1_washing 52 = .ok (.aload_n 0, 1) := dX1_washing_52g.1
theorem dX1_washing_53 : decode cX1_washing 53 = .ok (.getfield 27, 3) := dX1_washing_52g.2.1
theorem dX1_washing_56 : decode cX1_washing 56 = .ok (.iconst (-1), 1) := dX1_washing_52g.2.2.1
theorem dX1_washing_57 : decode cX1_washing 57 = .ok (.if_icmp .eq 27, 3) := dX1_washing_52g.2.2.2.1
theorem dX1_washing_60 : decode cX1_washing 60 = .ok (.iload_n 2, 1) := dX1_washing_52g.2.2.2.2.1
theorem dX1_washing_61 : decode cX1_washing 61 = .ok (.ifCond .lt 23, 3) := dX1_washing_52g.2.2.2.2.2.1
theorem dX1_washing_64 : decode cX1_washing 64 = .ok (.iload_n 2, 1) := dX1_washing_52g.2.2.2.2.2.2.1
theorem dX1_washing_65 : decode cX1_washing 65 = .ok (.aload_n 0, 1) := dX1_washing_52g.2.2.2.2.2.2.2.1
theorem dX1_washing_66 : decode cX1_washing 66 = .ok (.getfield 38, 3) := dX1_washing_52g.2.2.2.2.2.2.2.2.1
theorem dX1_washing_69 : decode cX1_washing 69 = .ok (.getfield 93, 3) := dX1_washing_52g.2.2.2.2.2.2.2.2.2
theorem dX1_washing_72g : (decode cX1_washing 72 = .ok (.invokevirtual 56, 3)) ∧ (decode cX1_washing 75 = .ok (.if_icmp .ge 9, 3)) ∧ (decode cX1_washing 78 = .ok (.iload_n 2, 1)) ∧ (decode cX1_washing 79 = .ok (.bipush 6, 2)) ∧ (decode cX1_washing 81 = .ok (.if_icmp .lt 5, 3)) ∧ (decode cX1_washing 84 = .ok (.iconst (-1), 1)) ∧ (decode cX1_washing 85 = .ok (.ireturn, 1)) ∧ (decode cX1_washing 86 = .ok (.iload_n 1, 1)) ∧ (decode cX1_washing 87 = .ok (.bipush 8, 2)) ∧ (decode cX1_washing 89 = .ok (.if_icmp .ge 12, 3)) := by decide +kernel
theorem dX1_washing_72 : decode cX1_washing 72 = .ok (.invokevirtual 56, 3) := dX1_washing_72g.1
theorem dX1_washing_75 : decode cX1_washing 75 = .ok (.if_icmp .ge 9, 3) := dX1_washing_72g.2.1
theorem dX1_washing_78 : decode cX1_washing 78 = .ok (.iload_n 2, 1) := dX1_washing_72g.2.2.1
theorem dX1_washing_79 : decode cX1_washing 79 = .ok (.bipush 6, 2) := dX1_washing_72g.2.2.2.1
theorem dX1_washing_81 : decode cX1_washing 81 = .ok (.if_icmp .lt 5, 3) := dX1_washing_72g.2.2.2.2.1
theorem dX1_washing_84 : decode cX1_washing 84 = .ok (.iconst (-1), 1) := dX1_washing_72g.2.2.2.2.2.1
theorem dX1_washing_85 : decode cX1_washing 85 = .ok (.ireturn, 1) := dX1_washing_72g.2.2.2.2.2.2.1
theorem dX1_washing_86 : decode cX1_washing 86 = .ok (.iload_n 1, 1) := dX1_washing_72g.2.2.2.2.2.2.2.1
theorem dX1_washing_87 : decode cX1_washing 87 = .ok (.bipush 8, 2) := dX1_washing_72g.2.2.2.2.2.2.2.2.1
theorem dX1_washing_89 : decode cX1_washing 89 = .ok (.if_icmp .ge 12, 3) := dX1_washing_72g.2.2.2.2.2.2.2.2.2
theorem dX1_washing_92g : (decode cX1_washing 92 = .ok (.aload_n 0, 1)) ∧ (decode cX1_washing 93 = .ok (.getfield 24, 3)) ∧ (decode cX1_washing 96 = .ok (.iload_n 2, 1)) ∧ (decode cX1_washing 97 = .ok (.iaload, 1)) ∧ (decode cX1_washing 98 = .ok (.goto 12, 3)) ∧ (decode cX1_washing 101 = .ok (.aload_n 0, 1)) ∧ (decode cX1_washing 102 = .ok (.getfield 24, 3)) ∧ (decode cX1_washing 105 = .ok (.bipush 6, 2)) ∧ (decode cX1_washing 107 = .ok (.iload_n 2, 1)) ∧ (decode cX1_washing 108 = .ok (.iadd, 1)) := by decide +kernel
theorem dX1_washing_92 : decode cX1_washing 92 = .ok (.aload_n 0, 1) := dX1_washing_92g.1
theorem dX1_washing_93 : decode cX1_washing 93 = .ok (.getfield 24, 3) := dX1_washing_92g.2.1
theorem dX1_washing_96 : decode cX1_washing 96 = .ok (.iload_n 2, 1) := dX1_washing_92g.2.2.1
theorem dX1_washing_97 : decode cX1_washing 97 = .ok (.iaload, 1) := dX1_washing_92g.2.2.2.1
theorem dX1_washing_98 : decode cX1_washing 98 = .ok (.goto 12, 3) := dX1_washing_92g.2.2.2.2.1
theorem dX1_washing_101 : decode cX1_washing 101 = .ok (.aload_n 0, 1) := dX1_washing_92g.2.2.2.2.2.1
theorem dX1_washing_102 : decode cX1_washing 102 = .ok (.getfield 24, 3) := dX1_washing_92g.2.2.2.2.2.2.1
theorem dX1_washing_105 : decode cX1_washing 105 = .ok (.bipush 6, 2) := dX1_washing_92g.2.2.2.2.2.2.2.1
theorem dX1_washing_107 : decode cX1_washing 107 = .ok (.iload_n 2, 1) := dX1_washing_92g.2.2.2.2.2.2.2.2.1
theorem dX1_washing_108 : decode cX1_washing 108 = .ok (.iadd, 1) := dX1_washing_92g.2.2.2.2.2.2.2.2.2
theorem dX1_washing_109g : (decode cX1_washing 109 = .ok (.iaload, 1)) ∧ (decode cX1_washing 110 = .ok (.ireturn, 1)) := by decide +kernel
theorem dX1_washing_109 : decode cX1_washing 109 = .ok (.iaload, 1) := dX1_washing_109g.1
theorem dX1_washing_110 : decode cX1_washing 110 = .ok (.ireturn, 1) := dX1_washing_109g.2
set_option maxHeartbeats 4000000 in
set_option maxRecDepth 100000 in
theorem c_X1_washing (l : Launch) (E : Nat → Nat) (D : va_G) (G : th_G) (h0 : Nat) (hG0 : G h0 = some (11, 0)) (x1 : Int32) : Met l yX1_washing (tb (.code yX1_washing cX1_washing 3 (some .int))) (rm 10) (va_Pc [.ref h0, .int x1] (th_P E D G)) (QI E D G (fun r => True)) 0 0 (th_A G) := by
  refine Met.ofW (cc := cX1_washing) (maxL := 3) (ret := (some .int)) (by decide) rfl ?_
  intro p e s m args below meth c s₁ B hml hv
  obtain ⟨hav, hI, hN, hK⟩ := hv
  have hx := B.exec
  have hb := B.bytes
  have hr := B.returns
  have hts := atoms_spec (ws := tb (.code yX1_washing cX1_washing 3 (some .int))) B.pre
  have hown : s.vm.findClass RX1 = some m.cls := findClass_of_methodNamed B.named
  have hlocks := B.notSynchronized
  have hS : va_S (th_A G) s.heap s.heap [] := va_S.rf
  have hl := lv_entry ([.ref h0, .int x1]) (n := 3) (Nat.le_of_ble_eq_true rfl)
  rw [show entryFrame m args 3 = entryFrame m ([.ref h0, .int x1] : List Value).toArray 3 from by rw [hav], lg_entry_eq]
  generalize (lg_sl ([.ref h0, .int x1]) ++ List.replicate (3 - (lg_sl ([.ref h0, .int x1])).length) Slot.unset).toArray = ls at hl ⊢
  have hl : lv_has ls 3 [(0, .ref h0), (1, .int x1)] := hl
  generalize hR : (headSpec (tb (.code yX1_washing cX1_washing 3 (some .int))) (rm 10)).room = R
  have hR := hR.symm
  generalize hQ : MQ below (QI E D G (fun r => True)) args s 0 0 (th_A G) = QF
  have hQ := hQ.symm
  have J_84 : ∀ (H : Heap) (locs : List Loc) (ls : Array Slot) (v1885 : Int32), lv_has ls 3 [(2, .int v1885), (0, .ref h0), (1, .int x1)] → th_I (okC E) D G [] H → va_S (th_A G) s.heap H locs → W p l e R s m args below meth c H locs 0 0 QF (F0 m 84 ls []) := by
    intro H locs ls v1885 hl  hI hS
    refine lv_iconst (v := (-1)) hx hb dX1_washing_84 (by decide) ?_
    have hpost : True := trivial
    rw [hQ]
    exact W.iret (v := (-1)) hx hb hr (fun t ht hW => ⟨⟨(-1), (), rfl, hpost, by rw [ht]; exact hI, hN.warm hW, va_K.moved hW.alike hK⟩, hS.F ht⟩) hS.2.2 dX1_washing_85
  have J_51 : ∀ (H : Heap) (locs : List Loc) (ls : Array Slot) (v1886 : Int32), lv_has ls 3 [(0, .ref h0), (1, .int x1)] → th_I (okC E) D G [] H → va_S (th_A G) s.heap H locs → W p l e R s m args below meth c H locs 0 0 QF (F0 m 51 ls [.int v1886]) := by
    intro H locs ls v1886 hl  hI hS
    refine lv_istore_n (lv' := [(2, .int v1886), (0, .ref h0), (1, .int x1)]) hx hb dX1_washing_51 rfl hl (by decide) rfl (fun ls hl => ?_)
    refine lv_aload_n hx hb dX1_washing_52 rfl (lv_at hl 1 rfl) ?_
    obtain ⟨a1887, a1889, a1891, a1893, a1895, a1897, a1899, a1901, w1903, w1904, w1905, hO, hq1888, hq1890, hq1892, hq1894, hq1896, hq1898, hq1900, hq1902⟩ := op_11 hI hG0 List.not_mem_nil
    have hI := th_I.weak (a := h0) hI
    refine th_get hx hb hts inT1 hown hK hO rfl 8 (by decide) (hts _ (tb_c wd_244)) rfl rfl dX1_washing_53 ?_
    refine lv_iconst (v := (-1)) hx hb dX1_washing_56 (by decide) ?_
    have k1906 := iv_lo w1903
    have k1907 := iv_hi w1903
    refine lv_icmp_eq (tgt := 84) hx hb dX1_washing_57 (by decide) (fun c1908 => ?_) (fun c1908 => ?_)
    · skip
      have k1909 := iv_eq (X := w1903.toInt) (Y := (-1)) rfl (by decide) c1908
      have hI := th_I.close hI hG0 hO (ok_11 hq1888 hq1890 hq1892 hq1894 hq1896 hq1898 hq1900 hq1902)
      exact J_84 H locs ls v1886 (lv_sub hl [0, 1, 2] rfl)  hI hS
    · skip
      have k1910 := iv_ne (X := w1903.toInt) (Y := (-1)) rfl (by decide) c1908
      refine lv_iload_n hx hb dX1_washing_60 rfl (lv_at hl 0 rfl) ?_
      have k1911 := iv_lo v1886
      have k1912 := iv_hi v1886
      refine lv_if_lt (tgt := 84) hx hb dX1_washing_61 (by decide) (fun c1913 => ?_) (fun c1913 => ?_)
      · skip
        have k1914 := iv_lt (X := v1886.toInt) (Y := (0)) rfl (by decide) c1913
        have hI := th_I.close hI hG0 hO (ok_11 hq1888 hq1890 hq1892 hq1894 hq1896 hq1898 hq1900 hq1902)
        exact J_84 H locs ls v1886 (lv_sub hl [0, 1, 2] rfl)  hI hS
      · skip
        have k1915 := iv_nlt (X := v1886.toInt) (Y := (0)) rfl (by decide) c1913
        refine lv_iload_n hx hb dX1_washing_64 rfl (lv_at hl 0 rfl) ?_
        refine lv_aload_n hx hb dX1_washing_65 rfl (lv_at hl 1 rfl) ?_
        refine th_get hx hb hts inT1 hown hK hO rfl 0 (by decide) (hts _ (tb_c wd_236)) rfl rfl dX1_washing_66 ?_
        have hI := th_I.close hI hG0 hO (ok_11 hq1888 hq1890 hq1892 hq1894 hq1896 hq1898 hq1900 hq1902)
        obtain ⟨a1916, a1918, a1920, a1922, a1924, a1926, a1928, a1930, a1932, a1934, w1936, w1939, w1940, w1941, hO, hq1917, hq1919, hq1921, hq1923, hq1925, hq1927, hq1929, hq1931, hq1933, hq1935, ⟨k1937, k1938⟩, k1942⟩ := op_6 hI hq1888 List.not_mem_nil
        have hI := th_I.weak (a := a1887) hI
        refine th_getN hx hb hts inT6 hown hK hN hO rfl 7 (by decide) wn_76 rfl rfl dX1_washing_69 ?_
        have hI := th_I.close hI hq1888 hO (ok_6 hq1917 hq1919 hq1921 hq1923 hq1925 hq1927 hq1929 hq1931 hq1933 hq1935 ⟨by omega, by omega⟩ k1942)
        obtain ⟨a1944, w1946, hO, hq1945, ⟨k1947, k1948⟩, k1949⟩ := op_4 hI hq1931 List.not_mem_nil
        have hI := th_I.weak (a := a1930) hI
        have k1950 : (nI 6).toInt = ((6 : Nat) : Int) := nI_toInt (by omega)
        refine th_cVs (As := []) (rest := [.int v1886]) (n := 0) (d := 0) ⟨hx, hb, hml, hown, hts⟩ (c_X4_size l E D H a1930 6 a1944 w1946 hO (by omega) (by omega) (by omega)) wd_920 wd_507 wd_508 wd_3 wd_509 (by decide +kernel) ⟨by rw [hR]; exact Nat.le_of_ble_eq_true rfl, by rw [hR]; exact Nat.le_of_ble_eq_true rfl⟩ hN hK hS ⟨_, hO⟩ rfl rfl hl.1 rfl (Nat.le_of_ble_eq_true rfl) dX1_washing_72 ⟨Nat.zero_le _, Nat.zero_le _⟩ (fun r1943 locs hp hS => ?_)
        have hp := hp.symm
        subst hp
        refine lv_icmp_ge (tgt := 84) hx hb dX1_washing_75 (by decide) (fun c1951 => ?_) (fun c1951 => ?_)
        · skip
          have k1952 := iv_le (X := w1946.toInt) (Y := v1886.toInt) rfl rfl c1951
          have hI := th_I.close hI hq1931 hO (ok_4 hq1945 ⟨by omega, by omega⟩ (by omega))
          exact J_84 H locs ls v1886 (lv_sub hl [0, 1, 2] rfl)  hI hS
        · skip
          have k1953 := iv_nle (X := w1946.toInt) (Y := v1886.toInt) rfl rfl c1951
          refine lv_iload_n hx hb dX1_washing_78 rfl (lv_at hl 0 rfl) ?_
          refine lv_bipush (v := 6) hx hb dX1_washing_79 (by decide) ?_
          refine lv_icmp_lt (tgt := 86) hx hb dX1_washing_81 (by decide) (fun c1954 => ?_) (fun c1954 => ?_)
          · skip
            have k1955 := iv_lt (X := v1886.toInt) (Y := (6)) rfl (by decide) c1954
            refine lv_iload_n hx hb dX1_washing_86 rfl (lv_at hl 2 rfl) ?_
            refine lv_bipush (v := 8) hx hb dX1_washing_87 (by decide) ?_
            have k1956 := iv_lo x1
            have k1957 := iv_hi x1
            refine lv_icmp_ge (tgt := 101) hx hb dX1_washing_89 (by decide) (fun c1958 => ?_) (fun c1958 => ?_)
            · skip
              have k1959 := iv_le (X := (8)) (Y := x1.toInt) (by decide) rfl c1958
              refine lv_aload_n hx hb dX1_washing_101 rfl (lv_at hl 1 rfl) ?_
              have hI := th_I.close hI hq1931 hO (ok_4 hq1945 ⟨by omega, by omega⟩ (by omega))
              obtain ⟨a1960, a1962, a1964, a1966, a1968, a1970, a1972, a1974, w1976, w1977, w1978, hO, hq1961, hq1963, hq1965, hq1967, hq1969, hq1971, hq1973, hq1975⟩ := op_11 hI hG0 List.not_mem_nil
              have hI := th_I.weak (a := h0) hI
              refine th_get hx hb hts inT1 hown hK hO rfl 7 (by decide) (hts _ (tb_c wd_243)) rfl rfl dX1_washing_102 ?_
              refine lv_bipush (v := 6) hx hb dX1_washing_105 (by decide) ?_
              refine lv_iload_n hx hb dX1_washing_107 rfl (lv_at hl 0 rfl) ?_
              refine lv_iadd hx hb dX1_washing_108 ?_
              refine lv_topi (fun v1979 e1980 => ?_)
              have tv1979 : v1979.toInt = (6) + v1886.toInt := iv_add (by decide) rfl e1980 (by omega) (by omega)
              obtain ⟨_, hA1981⟩ := op_0 hI hq1975 (th_ne hG0 hq1975 (show (11 : Nat) ≠ 0 by decide))
              refine th_iald hx hb hK hA1981 0 rfl (iv_in (X := v1979.toInt) rfl (by omega) (by omega)) dX1_washing_109 (fun v1982 _ => ?_)
              have hI := th_I.close hI hG0 hO (ok_11 hq1961 hq1963 hq1965 hq1967 hq1969 hq1971 hq1973 hq1975)
              have hpost : True := trivial
              rw [hQ]
              exact W.iret (v := v1982) hx hb hr (fun t ht hW => ⟨⟨v1982, (), rfl, hpost, by rw [ht]; exact hI, hN.warm hW, va_K.moved hW.alike hK⟩, hS.F ht⟩) hS.2.2 dX1_washing_110
            · skip
              have k1983 := iv_nle (X := (8)) (Y := x1.toInt) (by decide) rfl c1958
              refine lv_aload_n hx hb dX1_washing_92 rfl (lv_at hl 1 rfl) ?_
              have hI := th_I.close hI hq1931 hO (ok_4 hq1945 ⟨by omega, by omega⟩ (by omega))
              obtain ⟨a1984, a1986, a1988, a1990, a1992, a1994, a1996, a1998, w2000, w2001, w2002, hO, hq1985, hq1987, hq1989, hq1991, hq1993, hq1995, hq1997, hq1999⟩ := op_11 hI hG0 List.not_mem_nil
              have hI := th_I.weak (a := h0) hI
              refine th_get hx hb hts inT1 hown hK hO rfl 7 (by decide) (hts _ (tb_c wd_243)) rfl rfl dX1_washing_93 ?_
              refine lv_iload_n hx hb dX1_washing_96 rfl (lv_at hl 0 rfl) ?_
              obtain ⟨_, hA2003⟩ := op_0 hI hq1999 (th_ne hG0 hq1999 (show (11 : Nat) ≠ 0 by decide))
              refine th_iald hx hb hK hA2003 0 rfl (iv_in (X := v1886.toInt) rfl (by omega) (by omega)) dX1_washing_97 (fun v2004 _ => ?_)
              refine lv_goto (tgt := 110) hx hb dX1_washing_98 (by decide) ?_
              have hI := th_I.close hI hG0 hO (ok_11 hq1985 hq1987 hq1989 hq1991 hq1993 hq1995 hq1997 hq1999)
              have hpost : True := trivial
              rw [hQ]
              exact W.iret (v := v2004) hx hb hr (fun t ht hW => ⟨⟨v2004, (), rfl, hpost, by rw [ht]; exact hI, hN.warm hW, va_K.moved hW.alike hK⟩, hS.F ht⟩) hS.2.2 dX1_washing_110
          · skip
            have k2005 := iv_nlt (X := v1886.toInt) (Y := (6)) rfl (by decide) c1954
            exfalso; omega
  have J_16 : ∀ (H : Heap) (locs : List Loc) (ls : Array Slot) , lv_has ls 3 [(0, .ref h0), (1, .int x1)] → th_I (okC E) D G [] H → va_S (th_A G) s.heap H locs → W p l e R s m args below meth c H locs 0 0 QF (F0 m 16 ls []) := by
    intro H locs ls  hl  hI hS
    refine lv_iload_n hx hb dX1_washing_16 rfl (lv_at hl 1 rfl) ?_
    have k2006 := iv_lo x1
    have k2007 := iv_hi x1
    refine lv_if_ne (tgt := 25) hx hb dX1_washing_17 (by decide) (fun c2008 => ?_) (fun c2008 => ?_)
    · skip
      have k2009 := iv_ne (X := x1.toInt) (Y := (0)) rfl (by decide) c2008
      refine lv_iload_n hx hb dX1_washing_25 rfl (lv_at hl 1 rfl) ?_
      refine lv_iconst (v := 1) hx hb dX1_washing_26 (by decide) ?_
      refine lv_icmp_ne (tgt := 35) hx hb dX1_washing_27 (by decide) (fun c2010 => ?_) (fun c2010 => ?_)
      · skip
        have k2011 := iv_ne (X := x1.toInt) (Y := (1)) rfl (by decide) c2010
        refine lv_iload_n hx hb dX1_washing_35 rfl (lv_at hl 1 rfl) ?_
        refine lv_bipush (v := 8) hx hb dX1_washing_36 (by decide) ?_
        refine lv_icmp_ge (tgt := 47) hx hb dX1_washing_38 (by decide) (fun c2012 => ?_) (fun c2012 => ?_)
        · skip
          have k2013 := iv_le (X := (8)) (Y := x1.toInt) (by decide) rfl c2012
          refine lv_iload_n hx hb dX1_washing_47 rfl (lv_at hl 1 rfl) ?_
          refine lv_bipush (v := 8) hx hb dX1_washing_48 (by decide) ?_
          refine lv_isub hx hb dX1_washing_50 ?_
          refine lv_topi (fun v2014 e2015 => ?_)
          have tv2014 : v2014.toInt = x1.toInt - (8) := iv_sub rfl (by decide) e2015 (by omega) (by omega)
          exact J_51 H locs ls v2014 (lv_sub hl [0, 1] rfl)  hI hS
        · skip
          have k2016 := iv_nle (X := (8)) (Y := x1.toInt) (by decide) rfl c2012
          refine lv_iload_n hx hb dX1_washing_41 rfl (lv_at hl 1 rfl) ?_
          refine lv_iconst (v := 2) hx hb dX1_washing_42 (by decide) ?_
          refine lv_isub hx hb dX1_washing_43 ?_
          refine lv_topi (fun v2017 e2018 => ?_)
          try have tv2017 : v2017.toInt = x1.toInt - (2) := iv_sub rfl (by decide) e2018 (by omega) (by omega)
          refine lv_goto (tgt := 51) hx hb dX1_washing_44 (by decide) ?_
          exact J_51 H locs ls v2017 (lv_sub hl [0, 1] rfl)  hI hS
      · skip
        have k2019 := iv_eq (X := x1.toInt) (Y := (1)) rfl (by decide) c2010
        refine lv_aload_n hx hb dX1_washing_30 rfl (lv_at hl 0 rfl) ?_
        obtain ⟨a2020, a2022, a2024, a2026, a2028, a2030, a2032, a2034, w2036, w2037, w2038, hO, hq2021, hq2023, hq2025, hq2027, hq2029, hq2031, hq2033, hq2035⟩ := op_11 hI hG0 List.not_mem_nil
        have hI := th_I.weak (a := h0) hI
        refine th_get hx hb hts inT1 hown hK hO rfl 9 (by decide) (hts _ (tb_c wd_245)) rfl rfl dX1_washing_31 ?_
        have hI := th_I.close hI hG0 hO (ok_11 hq2021 hq2023 hq2025 hq2027 hq2029 hq2031 hq2033 hq2035)
        have hpost : True := trivial
        rw [hQ]
        exact W.iret (v := w2037) hx hb hr (fun t ht hW => ⟨⟨w2037, (), rfl, hpost, by rw [ht]; exact hI, hN.warm hW, va_K.moved hW.alike hK⟩, hS.F ht⟩) hS.2.2 dX1_washing_34
    · skip
      have k2039 := iv_eq (X := x1.toInt) (Y := (0)) rfl (by decide) c2008
      refine lv_aload_n hx hb dX1_washing_20 rfl (lv_at hl 0 rfl) ?_
      obtain ⟨a2040, a2042, a2044, a2046, a2048, a2050, a2052, a2054, w2056, w2057, w2058, hO, hq2041, hq2043, hq2045, hq2047, hq2049, hq2051, hq2053, hq2055⟩ := op_11 hI hG0 List.not_mem_nil
      have hI := th_I.weak (a := h0) hI
      refine th_get hx hb hts inT1 hown hK hO rfl 8 (by decide) (hts _ (tb_c wd_244)) rfl rfl dX1_washing_21 ?_
      have hI := th_I.close hI hG0 hO (ok_11 hq2041 hq2043 hq2045 hq2047 hq2049 hq2051 hq2053 hq2055)
      have hpost : True := trivial
      rw [hQ]
      exact W.iret (v := w2056) hx hb hr (fun t ht hW => ⟨⟨w2056, (), rfl, hpost, by rw [ht]; exact hI, hN.warm hW, va_K.moved hW.alike hK⟩, hS.F ht⟩) hS.2.2 dX1_washing_24
  refine lv_aload_n hx hb dX1_washing_0 rfl (lv_at hl 0 rfl) ?_
  obtain ⟨a2059, a2061, a2063, a2065, a2067, a2069, a2071, a2073, w2075, w2076, w2077, hO, hq2060, hq2062, hq2064, hq2066, hq2068, hq2070, hq2072, hq2074⟩ := op_11 hI hG0 List.not_mem_nil
  have hI := th_I.weak (a := h0) hI
  refine th_get hx hb hts inT1 hown hK hO rfl 10 (by decide) (hts _ (tb_c wd_246)) rfl rfl dX1_washing_1 ?_
  have k2078 := iv_lo w2077
  have k2079 := iv_hi w2077
  refine lv_if_eq (tgt := 16) hx hb dX1_washing_4 (by decide) (fun c2080 => ?_) (fun c2080 => ?_)
  · skip
    have k2081 := iv_eq (X := w2077.toInt) (Y := (0)) rfl (by decide) c2080
    have hI := th_I.close hI hG0 hO (ok_11 hq2060 hq2062 hq2064 hq2066 hq2068 hq2070 hq2072 hq2074)
    exact J_16 s.heap [] ls  (lv_sub hl [0, 1] rfl)  hI hS
  · skip
    have k2082 := iv_ne (X := w2077.toInt) (Y := (0)) rfl (by decide) c2080
    refine lv_aload_n hx hb dX1_washing_7 rfl (lv_at hl 0 rfl) ?_
    have hI := th_I.close hI hG0 hO (ok_11 hq2060 hq2062 hq2064 hq2066 hq2068 hq2070 hq2072 hq2074)
    refine th_cVv (As := []) (rest := []) (n := 0) (d := 9) ⟨hx, hb, hml, hown, hts⟩ (c_X1_wash l E D G h0 hG0 ) wd_1058 wd_1060 wp_31 wd_9 wd_1061 (by decide +kernel) ⟨by rw [hR]; exact Nat.le_of_ble_eq_true rfl, by rw [hR]; exact Nat.le_of_ble_eq_true rfl⟩ hI hN hK hS (rc_11 hI hG0 List.not_mem_nil) rfl rfl hl.1 rfl (Nat.le_of_ble_eq_true rfl) dX1_washing_8 ⟨Nat.zero_le _, Nat.zero_le _⟩ (fun H locs hI hS => ?_)
    refine lv_aload_n hx hb dX1_washing_11 rfl (lv_at hl 0 rfl) ?_
    refine lv_iconst (v := 0) hx hb dX1_washing_12 (by decide) ?_
    obtain ⟨a2084, a2086, a2088, a2090, a2092, a2094, a2096, a2098, w2100, w2101, w2102, hO, hq2085, hq2087, hq2089, hq2091, hq2093, hq2095, hq2097, hq2099⟩ := op_11 hI hG0 List.not_mem_nil
    have hI := th_I.weak (a := h0) hI
    refine th_put (ty := .boolean) hx hb hts inT1 tyX1 tyX1_ok nmX1 hown hK hO hS ⟨_, hG0⟩ rfl 10 (by decide) (hts _ (tb_c wd_246)) rfl rfl (by decide +kernel) (by decide) rfl (Nat.le_of_ble_eq_true rfl) dX1_washing_13 (fun H locs hO oq hS => ?_)
    have hI := th_I.moved hI oq
    have hO : va_at D vwCl (h0, .inr (1, [.ref a2084, .ref a2086, .ref a2088, .ref a2090, .ref a2092, .ref a2094, .ref a2096, .ref a2098, .int w2100, .int w2101, .int 0])) H := hO
    have hI := th_I.close hI hG0 hO (ok_11 hq2085 hq2087 hq2089 hq2091 hq2093 hq2095 hq2097 hq2099)
    exact J_16 H locs ls  (lv_sub hl [0, 1] rfl)  hI hS
theorem dX11_laundry_0g : (decode cX11_laundry 0 = .ok (.iload_n 1, 1)) ∧ (decode cX11_laundry 1 = .ok (.ifCond .lt 9, 3)) ∧ (decode cX11_laundry 4 = .ok (.iload_n 1, 1)) ∧ (decode cX11_laundry 5 = .ok (.bipush 13, 2)) ∧ (decode cX11_laundry 7 = .ok (.if_icmp .le 7, 3)) ∧ (decode cX11_laundry 10 = .ok (.iconst (-1), 1)) ∧ (decode cX11_laundry 11 = .ok (.goto 11, 3)) ∧ (decode cX11_laundry 14 = .ok (.aload_n 0, 1)) ∧ (decode cX11_laundry 15 = .ok (.getfield 60, 3)) ∧ (decode cX11_laundry 18 = .ok (.iload_n 1, 1)) := by decide +kernel
theorem dX11_laundry_0 : decode cX11_laundry 0 = .ok (.iload_n 1, 1) := dX11_laundry_0g.1
theorem dX11_laundry_1 : decode cX11_laundry 1 = .ok (.ifCond .lt 9, 3) := dX11_laundry_0g.2.1
theorem dX11_laundry_4 : decode cX11_laundry 4 = .ok (.iload_n 1, 1) := dX11_laundry_0g.2.2.1
theorem dX11_laundry_5 : decode cX11_laundry 5 = .ok (.bipush 13, 2) := dX11_laundry_0g.2.2.2.1
theorem dX11_laundry_7 : decode cX11_laundry 7 = .ok (.if_icmp .le 7, 3) := dX11_laundry_0g.2.2.2.2.1
theorem dX11_laundry_10 : decode cX11_laundry 10 = .ok (.iconst (-1), 1) := dX11_laundry_0g.2.2.2.2.2.1
theorem dX11_laundry_11 : decode cX11_laundry 11 = .ok (.goto 11, 3) := dX11_laundry_0g.2.2.2.2.2.2.1
theorem dX11_laundry_14 : decode cX11_laundry 14 = .ok (.aload_n 0, 1) := dX11_laundry_0g.2.2.2.2.2.2.2.1
theorem dX11_laundry_15 : decode cX11_laundry 15 = .ok (.getfield 60, 3) := dX11_laundry_0g.2.2.2.2.2.2.2.2.1
theorem dX11_laundry_18 : decode cX11_laundry 18 = .ok (.iload_n 1, 1) := dX11_laundry_0g.2.2.2.2.2.2.2.2.2
theorem dX11_laundry_19g : (decode cX11_laundry 19 = .ok (.invokevirtual 310, 3)) ∧ (decode cX11_laundry 22 = .ok (.ireturn, 1)) := by decide +kernel
theorem dX11_laundry_19 : decode cX11_laundry 19 = .ok (.invokevirtual 310, 3) := dX11_laundry_19g.1
theorem dX11_laundry_22 : decode cX11_laundry 22 = .ok (.ireturn, 1) := dX11_laundry_19g.2
set_option maxHeartbeats 4000000 in
set_option maxRecDepth 100000 in
theorem c_X11_laundry (l : Launch) (E : Nat → Nat) (D : va_G) (G : th_G) (h0 n : Nat) (hG0 : G h0 = some (15, n)) (x1 : Int32) : Met l yX11_laundry (tb (.code yX11_laundry cX11_laundry 2 (some .int))) (rm 11) (va_Pc [.ref h0, .int x1] (th_P E D G)) (QI E D G (fun r => True)) 0 0 (th_A G) := by
  refine Met.ofW (cc := cX11_laundry) (maxL := 2) (ret := (some .int)) (by decide) rfl ?_
  intro p e s m args below meth c s₁ B hml hv
  obtain ⟨hav, hI, hN, hK⟩ := hv
  have hx := B.exec
  have hb := B.bytes
  have hr := B.returns
  have hts := atoms_spec (ws := tb (.code yX11_laundry cX11_laundry 2 (some .int))) B.pre
  have hown : s.vm.findClass RX11 = some m.cls := findClass_of_methodNamed B.named
  have hlocks := B.notSynchronized
  have hS : va_S (th_A G) s.heap s.heap [] := va_S.rf
  have hl := lv_entry ([.ref h0, .int x1]) (n := 2) (Nat.le_of_ble_eq_true rfl)
  rw [show entryFrame m args 2 = entryFrame m ([.ref h0, .int x1] : List Value).toArray 2 from by rw [hav], lg_entry_eq]
  generalize (lg_sl ([.ref h0, .int x1]) ++ List.replicate (2 - (lg_sl ([.ref h0, .int x1])).length) Slot.unset).toArray = ls at hl ⊢
  have hl : lv_has ls 2 [(0, .ref h0), (1, .int x1)] := hl
  generalize hR : (headSpec (tb (.code yX11_laundry cX11_laundry 2 (some .int))) (rm 11)).room = R
  have hR := hR.symm
  generalize hQ : MQ below (QI E D G (fun r => True)) args s 0 0 (th_A G) = QF
  have hQ := hQ.symm
  refine lv_iload_n hx hb dX11_laundry_0 rfl (lv_at hl 1 rfl) ?_
  have k1 := iv_lo x1
  have k2 := iv_hi x1
  refine lv_if_lt (tgt := 10) hx hb dX11_laundry_1 (by decide) (fun c3 => ?_) (fun c3 => ?_)
  · skip
    have k4 := iv_lt (X := x1.toInt) (Y := (0)) rfl (by decide) c3
    refine lv_iconst (v := (-1)) hx hb dX11_laundry_10 (by decide) ?_
    refine lv_goto (tgt := 22) hx hb dX11_laundry_11 (by decide) ?_
    have hpost : True := trivial
    rw [hQ]
    exact W.iret (v := (-1)) hx hb hr (fun t ht hW => ⟨⟨(-1), (), rfl, hpost, by rw [ht]; exact hI, hN.warm hW, va_K.moved hW.alike hK⟩, hS.F ht⟩) hS.2.2 dX11_laundry_22
  · skip
    have k5 := iv_nlt (X := x1.toInt) (Y := (0)) rfl (by decide) c3
    refine lv_iload_n hx hb dX11_laundry_4 rfl (lv_at hl 1 rfl) ?_
    refine lv_bipush (v := 13) hx hb dX11_laundry_5 (by decide) ?_
    refine lv_icmp_le (tgt := 14) hx hb dX11_laundry_7 (by decide) (fun c6 => ?_) (fun c6 => ?_)
    · skip
      have k7 := iv_le (X := x1.toInt) (Y := (13)) rfl (by decide) c6
      refine lv_aload_n hx hb dX11_laundry_14 rfl (lv_at hl 0 rfl) ?_
      obtain ⟨a8, a11, a13, a15, a17, a19, a21, a23, a25, a27, a29, w31, w34, w35, w36, w37, hO, hq9, hq10, hq12, hq14, hq16, hq18, hq20, hq22, hq24, hq26, hq28, hq30, ⟨k32, k33⟩, k38⟩ := op_15 hI hG0 List.not_mem_nil
      have hI := th_I.weak (a := h0) hI
      refine th_get hx hb hts inT11 hown hK hO rfl 8 (by decide) (hts _ (tb_c wd_353)) rfl rfl dX11_laundry_15 ?_
      refine lv_iload_n hx hb dX11_laundry_18 rfl (lv_at hl 1 rfl) ?_
      have hI := th_I.close hI hG0 hO (ok_15 hq9 hq10 hq12 hq14 hq16 hq18 hq20 hq22 hq24 hq26 hq28 hq30 ⟨by omega, by omega⟩ k38)
      refine th_cVi (As := [.int x1]) (rest := []) (n := 1) (d := 10) ⟨hx, hb, hml, hown, hts⟩ (c_X1_washing l E D G a23 hq24 x1) wd_1054 wd_1055 wd_1056 wd_9 wd_1057 (by decide +kernel) ⟨by rw [hR]; exact Nat.le_of_ble_eq_true rfl, by rw [hR]; exact Nat.le_of_ble_eq_true rfl⟩ hI hN hK hS (rc_11 hI hq24 List.not_mem_nil) rfl rfl hl.1 rfl (Nat.le_of_ble_eq_true rfl) dX11_laundry_19 ⟨Nat.zero_le _, Nat.zero_le _⟩ (fun r39 H locs hp hI hS => ?_)
      have hpost : True := trivial
      rw [hQ]
      exact W.iret (v := r39) hx hb hr (fun t ht hW => ⟨⟨r39, (), rfl, hpost, by rw [ht]; exact hI, hN.warm hW, va_K.moved hW.alike hK⟩, hS.F ht⟩) hS.2.2 dX11_laundry_22
    · skip
      have k40 := iv_nle (X := x1.toInt) (Y := (13)) rfl (by decide) c6
      refine lv_iconst (v := (-1)) hx hb dX11_laundry_10 (by decide) ?_
      refine lv_goto (tgt := 22) hx hb dX11_laundry_11 (by decide) ?_
      have hpost : True := trivial
      rw [hQ]
      exact W.iret (v := (-1)) hx hb hr (fun t ht hW => ⟨⟨(-1), (), rfl, hpost, by rw [ht]; exact hI, hN.warm hW, va_K.moved hW.alike hK⟩, hS.F ht⟩) hS.2.2 dX11_laundry_22
