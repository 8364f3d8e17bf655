theorem wn_1079 : (Cond.methodLinkNest RX1 (115 : Nat) yX11_isMoment "NineRiver") ∈ lw_tbl := List.mem_append_right _ (List.mem_of_getElem? (i := 1079) (by decide +kernel))
theorem wp_31 : Cond.selects RX1 yX1_wash yX1_wash ∈ TB := tv 31 (by decide +kernel) (by decide +kernel)
theorem wp_32 : Cond.selects RX1 yX1_tint yX1_tint ∈ TB := tv 32 (by decide +kernel) (by decide +kernel)
theorem wp_33 : Cond.selects RX1 yX1_findBegins yX1_findBegins ∈ TB := tv 33 (by decide +kernel) (by decide +kernel)
theorem wp_34 : Cond.selects RX1 yX1_place yX1_place ∈ TB := tv 34 (by decide +kernel) (by decide +kernel)
theorem wp_35 : Cond.selects RX1 yX1_finish yX1_finish ∈ TB := tv 35 (by decide +kernel) (by decide +kernel)
theorem wd_1054 : (Cond.methodLink RX11 (310 : Nat) yX1_washing) ∈ TB := tw 1054 (by decide +kernel) (by decide +kernel)
theorem wd_1055 : (Jvm.Cond.instanceMethod yX1_washing) ∈ TB := tw 1055 (by decide +kernel) (by decide +kernel)
theorem wd_1056 : (Cond.selects RX1 yX1_washing yX1_washing) ∈ TB := tw 1056 (by decide +kernel) (by decide +kernel)
theorem wd_1057 : (Cond.code yX1_washing cX1_washing 3 (Option.some Jvm.ClassFile.FieldType.int)) ∈ TB := tw 1057 (by decide +kernel) (by decide +kernel)
theorem wd_1058 : (Cond.methodLink RX1 (90 : Nat) yX1_wash) ∈ TB := tw 1058 (by decide +kernel) (by decide +kernel)
theorem wd_1060 : (Jvm.Cond.instanceMethod yX1_wash) ∈ TB := tw 1060 (by decide +kernel) (by decide +kernel)
theorem wd_1061 : (Cond.code yX1_wash cX1_wash 2 (Option.none : Option Jvm.ClassFile.FieldType)) ∈ TB := tw 1061 (by decide +kernel) (by decide +kernel)
theorem wd_1062 : (Cond.methodLink RX1 (101 : Nat) yX1_tint) ∈ TB := tw 1062 (by decide +kernel) (by decide +kernel)
theorem wd_1064 : (Jvm.Cond.instanceMethod yX1_tint) ∈ TB := tw 1064 (by decide +kernel) (by decide +kernel)
theorem wd_1065 : (Cond.code yX1_tint cX1_tint 4 (Option.none : Option Jvm.ClassFile.FieldType)) ∈ TB := tw 1065 (by decide +kernel) (by decide +kernel)
theorem wd_1066 : (Cond.methodLink RX1 (104 : Nat) yX1_findBegins) ∈ TB := tw 1066 (by decide +kernel) (by decide +kernel)
theorem wd_1068 : (Jvm.Cond.instanceMethod yX1_findBegins) ∈ TB := tw 1068 (by decide +kernel) (by decide +kernel)
theorem wd_1069 : (Cond.code yX1_findBegins cX1_findBegins 8 (Option.none : Option Jvm.ClassFile.FieldType)) ∈ TB := tw 1069 (by decide +kernel) (by decide +kernel)
theorem wd_1070 : (Cond.methodLink RX1 (108 : Nat) yX1_place) ∈ TB := tw 1070 (by decide +kernel) (by decide +kernel)
theorem wd_1072 : (Jvm.Cond.instanceMethod yX1_place) ∈ TB := tw 1072 (by decide +kernel) (by decide +kernel)
theorem wd_1073 : (Cond.code yX1_place cX1_place 7 (Option.none : Option Jvm.ClassFile.FieldType)) ∈ TB := tw 1073 (by decide +kernel) (by decide +kernel)
theorem wd_1074 : (Cond.methodLink RX1 (112 : Nat) yX1_finish) ∈ TB := tw 1074 (by decide +kernel) (by decide +kernel)
theorem wd_1076 : (Jvm.Cond.instanceMethod yX1_finish) ∈ TB := tw 1076 (by decide +kernel) (by decide +kernel)
theorem wd_1077 : (Cond.code yX1_finish cX1_finish 2 (Option.none : Option Jvm.ClassFile.FieldType)) ∈ TB := tw 1077 (by decide +kernel) (by decide +kernel)
theorem dX1_place_0g : (decode cX1_place 0 = .ok (.aload_n 0, 1)) ∧ (decode cX1_place 1 = .ok (.getfield 38, 3)) ∧ (decode cX1_place 4 = .ok (.getfield 93, 3)) ∧ (decode cX1_place 7 = .ok (.invokevirtual 56, 3)) ∧ (decode cX1_place 10 = .ok (.istore 4, 2)) ∧ (decode cX1_place 12 = .ok (.iload_n 1, 1)) ∧ (decode cX1_place 13 = .ok (.iload 4, 2)) ∧ (decode cX1_place 15 = .ok (.if_icmp .ge 9, 3)) ∧ (decode cX1_place 18 = .ok (.iload_n 1, 1)) ∧ (decode cX1_place 19 = .ok (.bipush 6, 2)) := by decide +kernel
theorem dX1_place_0 : decode cX1_place 0 = .ok (.aload_n 0, 1) := dX1_place_0g.1
theorem dX1_place_1 : decode cX1_place 1 = .ok (.getfield 38, 3) := dX1_place_0g.2.1
theorem dX1_place_4 : decode cX1_place 4 = .ok (.getfield 93, 3) := dX1_place_0g.2.2.1
theorem dX1_place_7 : decode cX1_place 7 = .ok (.invokevirtual 56, 3) := dX1_place_0g.2.2.2.1
theorem dX1_place_10 : decode cX1_place 10 = .ok (.istore 4, 2) := dX1_place_0g.2.2.2.2.1
theorem dX1_place_12 : decode cX1_place 12 = .ok (.iload_n 1, 1) := dX1_place_0g.2.2.2.2.2.1
theorem dX1_place_13 : decode cX1_place 13 = .ok (.iload 4, 2) := dX1_place_0g.2.2.2.2.2.2.1
theorem dX1_place_15 : decode cX1_place 15 = .ok (.if_icmp .ge 9, 3) := dX1_place_0g.2.2.2.2.2.2.2.1
theorem dX1_place_18 : decode cX1_place 18 = .ok (.iload_n 1, 1) := dX1_place_0g.2.2.2.2.2.2.2.2.1
theorem dX1_place_19 : decode cX1_place 19 = .ok (.bipush 6, 2) := dX1_place_0g.2.2.2.2.2.2.2.2.2
theorem dX1_place_21g : (decode cX1_place 21 = .ok (.if_icmp .lt 9, 3)) ∧ (decode cX1_place 24 = .ok (.aload_n 0, 1)) ∧ (decode cX1_place 25 = .ok (.iload_n 3, 1)) ∧ (decode cX1_place 26 = .ok (.invokevirtual 112, 3)) ∧ (decode cX1_place 29 = .ok (.return_, 1)) ∧ (decode cX1_place 30 = .ok (.iconst 0, 1)) ∧ (decode cX1_place 31 = .ok (.istore 5, 2)) ∧ (decode cX1_place 33 = .ok (.iload 5, 2)) ∧ (decode cX1_place 35 = .ok (.iload 4, 2)) ∧ (decode cX1_place 37 = .ok (.if_icmp .ge 104, 3)) := by decide +kernel
theorem dX1_place_21 : decode cX1_place 21 = .ok (.if_icmp .lt 9, 3) := dX1_place_21g.1
theorem dX1_place_24 : decode cX1_place 24 = .ok (.aload_n 0, 1) := dX1_place_21g.2.1
theorem dX1_place_25 : decode cX1_place 25 = .ok (.iload_n 3, 1) := dX1_place_21g.2.2.1
theorem dX1_place_26 : decode cX1_place 26 = .ok (.invokevirtual 112, 3) := dX1_place_21g.2.2.2.1
theorem dX1_place_29 : decode cX1_place 29 = .ok (.return_, 1) := dX1_place_21g.2.2.2.2.1
theorem dX1_place_30 : decode cX1_place 30 = .ok (.iconst 0, 1) := dX1_place_21g.2.2.2.2.2.1
theorem dX1_place_31 : decode cX1_place 31 = .ok (.istore 5, 2) := dX1_place_21g.2.2.2.2.2.2.1
theorem dX1_place_33 : decode cX1_place 33 = .ok (.iload 5, 2) := dX1_place_21g.2.2.2.2.2.2.2.1
theorem dX1_place_35 : decode cX1_place 35 = .ok (.iload 4, 2) := dX1_place_21g.2.2.2.2.2.2.2.2.1
theorem dX1_place_37 : decode cX1_place 37 = .ok (.if_icmp .ge 104, 3) := dX1_place_21g.2.2.2.2.2.2.2.2.2
theorem dX1_place_40g : (decode cX1_place 40 = .ok (.iload 5, 2)) ∧ (decode cX1_place 42 = .ok (.bipush 6, 2)) ∧ (decode cX1_place 44 = .ok (.if_icmp .ge 97, 3)) ∧ (decode cX1_place 47 = .ok (.iload_n 3, 1)) ∧ (decode cX1_place 48 = .ok (.invokestatic 115, 3)) ∧ (decode cX1_place 51 = .ok (.ifCond .eq 18, 3)) ∧ (decode cX1_place 54 = .ok (.aload_n 0, 1)) ∧ (decode cX1_place 55 = .ok (.getfield 18, 3)) ∧ (decode cX1_place 58 = .ok (.iload 5, 2)) ∧ (decode cX1_place 60 = .ok (.bipush 97, 2)) := by decide +kernel
theorem dX1_place_40 : decode cX1_place 40 = .ok (.iload 5, 2) := dX1_place_40g.1
theorem dX1_place_42 : decode cX1_place 42 = .ok (.bipush 6, 2) := dX1_place_40g.2.1
theorem dX1_place_44 : decode cX1_place 44 = .ok (.if_icmp .ge 97, 3) := dX1_place_40g.2.2.1
theorem dX1_place_47 : decode cX1_place 47 = .ok (.iload_n 3, 1) := dX1_place_40g.2.2.2.1
theorem dX1_place_48 : decode cX1_place 48 = .ok (.invokestatic 115, 3) := dX1_place_40g.2.2.2.2.1
theorem dX1_place_51 : decode cX1_place 51 = .ok (.ifCond .eq 18, 3) := dX1_place_40g.2.2.2.2.2.1
theorem dX1_place_54 : decode cX1_place 54 = .ok (.aload_n 0, 1) := dX1_place_40g.2.2.2.2.2.2.1
theorem dX1_place_55 : decode cX1_place 55 = .ok (.getfield 18, 3) := dX1_place_40g.2.2.2.2.2.2.2.1
theorem dX1_place_58 : decode cX1_place 58 = .ok (.iload 5, 2) := dX1_place_40g.2.2.2.2.2.2.2.2.1
theorem dX1_place_60 : decode cX1_place 60 = .ok (.bipush 97, 2) := dX1_place_40g.2.2.2.2.2.2.2.2.2
theorem dX1_place_62g : (decode cX1_place 62 = .ok (.imul, 1)) ∧ (decode cX1_place 63 = .ok (.iload_n 3, 1)) ∧ (decode cX1_place 64 = .ok (.iadd, 1)) ∧ (decode cX1_place 65 = .ok (.iaload, 1)) ∧ (decode cX1_place 66 = .ok (.goto 4, 3)) ∧ (decode cX1_place 69 = .ok (.iconst (-1), 1)) ∧ (decode cX1_place 70 = .ok (.istore 6, 2)) ∧ (decode cX1_place 72 = .ok (.iload_n 2, 1)) ∧ (decode cX1_place 73 = .ok (.iload 5, 2)) ∧ (decode cX1_place 75 = .ok (.ishr, 1)) := by decide +kernel
theorem dX1_place_62 : decode cX1_place 62 = .ok (.imul, 1) := dX1_place_62g.1
theorem dX1_place_63 : decode cX1_place 63 = .ok (.iload_n 3, 1) := dX1_place_62g.2.1
theorem dX1_place_64 : decode cX1_place 64 = .ok (.iadd, 1) := dX1_place_62g.2.2.1
theorem dX1_place_65 : decode cX1_place 65 = .ok (.iaload, 1) := dX1_place_62g.2.2.2.1
theorem dX1_place_66 : decode cX1_place 66 = .ok (.goto 4, 3) := dX1_place_62g.2.2.2.2.1
theorem dX1_place_69 : decode cX1_place 69 = .ok (.iconst (-1), 1) := dX1_place_62g.2.2.2.2.2.1
theorem dX1_place_70 : decode cX1_place 70 = .ok (.istore 6, 2) := dX1_place_62g.2.2.2.2.2.2.1
theorem dX1_place_72 : decode cX1_place 72 = .ok (.iload_n 2, 1) := dX1_place_62g.2.2.2.2.2.2.2.1
theorem dX1_place_73 : decode cX1_place 73 = .ok (.iload 5, 2) := dX1_place_62g.2.2.2.2.2.2.2.2.1
theorem dX1_place_75 : decode cX1_place 75 = .ok (.ishr, 1) := dX1_place_62g.2.2.2.2.2.2.2.2.2
theorem dX1_place_76g : (decode cX1_place 76 = .ok (.iconst 1, 1)) ∧ (decode cX1_place 77 = .ok (.iand, 1)) ∧ (decode cX1_place 78 = .ok (.ifCond .ne 57, 3)) ∧ (decode cX1_place 81 = .ok (.iload 6, 2)) ∧ (decode cX1_place 83 = .ok (.iconst (-1), 1)) ∧ (decode cX1_place 84 = .ok (.if_icmp .eq 51, 3)) ∧ (decode cX1_place 87 = .ok (.aload_n 0, 1)) ∧ (decode cX1_place 88 = .ok (.getfield 21, 3)) ∧ (decode cX1_place 91 = .ok (.iload_n 1, 1)) ∧ (decode cX1_place 92 = .ok (.iload 5, 2)) := by decide +kernel
theorem dX1_place_76 : decode cX1_place 76 = .ok (.iconst 1, 1) := dX1_place_76g.1
theorem dX1_place_77 : decode cX1_place 77 = .ok (.iand, 1) := dX1_place_76g.2.1
theorem dX1_place_78 : decode cX1_place 78 = .ok (.ifCond .ne 57, 3) := dX1_place_76g.2.2.1
theorem dX1_place_81 : decode cX1_place 81 = .ok (.iload 6, 2) := dX1_place_76g.2.2.2.1
theorem dX1_place_83 : decode cX1_place 83 = .ok (.iconst (-1), 1) := dX1_place_76g.2.2.2.2.1
theorem dX1_place_84 : decode cX1_place 84 = .ok (.if_icmp .eq 51, 3) := dX1_place_76g.2.2.2.2.2.1
theorem dX1_place_87 : decode cX1_place 87 = .ok (.aload_n 0, 1) := dX1_place_76g.2.2.2.2.2.2.1
theorem dX1_place_88 : decode cX1_place 88 = .ok (.getfield 21, 3) := dX1_place_76g.2.2.2.2.2.2.2.1
theorem dX1_place_91 : decode cX1_place 91 = .ok (.iload_n 1, 1) := dX1_place_76g.2.2.2.2.2.2.2.2.1
theorem dX1_place_92 : decode cX1_place 92 = .ok (.iload 5, 2) := dX1_place_76g.2.2.2.2.2.2.2.2.2
theorem dX1_place_94g : (decode cX1_place 94 = .ok (.iastore, 1)) ∧ (decode cX1_place 95 = .ok (.aload_n 0, 1)) ∧ (decode cX1_place 96 = .ok (.getfield 21, 3)) ∧ (decode cX1_place 99 = .ok (.bipush 6, 2)) ∧ (decode cX1_place 101 = .ok (.iload_n 1, 1)) ∧ (decode cX1_place 102 = .ok (.iadd, 1)) ∧ (decode cX1_place 103 = .ok (.iload 6, 2)) ∧ (decode cX1_place 105 = .ok (.iastore, 1)) ∧ (decode cX1_place 106 = .ok (.aload_n 0, 1)) ∧ (decode cX1_place 107 = .ok (.iload_n 1, 1)) := by decide +kernel
theorem dX1_place_94 : decode cX1_place 94 = .ok (.iastore, 1) := dX1_place_94g.1
theorem dX1_place_95 : decode cX1_place 95 = .ok (.aload_n 0, 1) := dX1_place_94g.2.1
theorem dX1_place_96 : decode cX1_place 96 = .ok (.getfield 21, 3) := dX1_place_94g.2.2.1
theorem dX1_place_99 : decode cX1_place 99 = .ok (.bipush 6, 2) := dX1_place_94g.2.2.2.1
theorem dX1_place_101 : decode cX1_place 101 = .ok (.iload_n 1, 1) := dX1_place_94g.2.2.2.2.1
theorem dX1_place_102 : decode cX1_place 102 = .ok (.iadd, 1) := dX1_place_94g.2.2.2.2.2.1
theorem dX1_place_103 : decode cX1_place 103 = .ok (.iload 6, 2) := dX1_place_94g.2.2.2.2.2.2.1
theorem dX1_place_105 : decode cX1_place 105 = .ok (.iastore, 1) := dX1_place_94g.2.2.2.2.2.2.2.1
theorem dX1_place_106 : decode cX1_place 106 = .ok (.aload_n 0, 1) := dX1_place_94g.2.2.2.2.2.2.2.2.1
theorem dX1_place_107 : decode cX1_place 107 = .ok (.iload_n 1, 1) := dX1_place_94g.2.2.2.2.2.2.2.2.2
theorem dX1_place_108g : (decode cX1_place 108 = .ok (.iconst 1, 1)) ∧ (decode cX1_place 109 = .ok (.iadd, 1)) ∧ (decode cX1_place 110 = .ok (.iload_n 2, 1)) ∧ (decode cX1_place 111 = .ok (.iconst 1, 1)) ∧ (decode cX1_place 112 = .ok (.iload 5, 2)) ∧ (decode cX1_place 114 = .ok (.ishl, 1)) ∧ (decode cX1_place 115 = .ok (.ior, 1)) ∧ (decode cX1_place 116 = .ok (.iload 6, 2)) ∧ (decode cX1_place 118 = .ok (.aload_n 0, 1)) ∧ (decode cX1_place 119 = .ok (.getfield 38, 3)) := by decide +kernel
theorem dX1_place_108 : decode cX1_place 108 = .ok (.iconst 1, 1) := dX1_place_108g.1
theorem dX1_place_109 : decode cX1_place 109 = .ok (.iadd, 1) := dX1_place_108g.2.1
theorem dX1_place_110 : decode cX1_place 110 = .ok (.iload_n 2, 1) := dX1_place_108g.2.2.1
theorem dX1_place_111 : decode cX1_place 111 = .ok (.iconst 1, 1) := dX1_place_108g.2.2.2.1
theorem dX1_place_112 : decode cX1_place 112 = .ok (.iload 5, 2) := dX1_place_108g.2.2.2.2.1
theorem dX1_place_114 : decode cX1_place 114 = .ok (.ishl, 1) := dX1_place_108g.2.2.2.2.2.1
theorem dX1_place_115 : decode cX1_place 115 = .ok (.ior, 1) := dX1_place_108g.2.2.2.2.2.2.1
theorem dX1_place_116 : decode cX1_place 116 = .ok (.iload 6, 2) := dX1_place_108g.2.2.2.2.2.2.2.1
theorem dX1_place_118 : decode cX1_place 118 = .ok (.aload_n 0, 1) := dX1_place_108g.2.2.2.2.2.2.2.2.1
theorem dX1_place_119 : decode cX1_place 119 = .ok (.getfield 38, 3) := dX1_place_108g.2.2.2.2.2.2.2.2.2
theorem dX1_place_122g : (decode cX1_place 122 = .ok (.getfield 93, 3)) ∧ (decode cX1_place 125 = .ok (.iload 5, 2)) ∧ (decode cX1_place 127 = .ok (.iconst 1, 1)) ∧ (decode cX1_place 128 = .ok (.invokevirtual 66, 3)) ∧ (decode cX1_place 131 = .ok (.iadd, 1)) ∧ (decode cX1_place 132 = .ok (.invokevirtual 108, 3)) ∧ (decode cX1_place 135 = .ok (.iinc 5 1, 3)) ∧ (decode cX1_place 138 = .ok (.goto (-105), 3)) ∧ (decode cX1_place 141 = .ok (.return_, 1)) := by decide +kernel
theorem dX1_place_122 : decode cX1_place 122 = .ok (.getfield 93, 3) := dX1_place_122g.1
theorem dX1_place_125 : decode cX1_place 125 = .ok (.iload 5, 2) := dX1_place_122g.2.1
theorem dX1_place_127 : decode cX1_place 127 = .ok (.iconst 1, 1) := dX1_place_122g.2.2.1
theorem dX1_place_128 : decode cX1_place 128 = .ok (.invokevirtual 66, 3) := dX1_place_122g.2.2.2.1
theorem dX1_place_131 : decode cX1_place 131 = .ok (.iadd, 1) := dX1_place_122g.2.2.2.2.1
theorem dX1_place_132 : decode cX1_place 132 = .ok (.invokevirtual 108, 3) := dX1_place_122g.2.2.2.2.2.1
theorem dX1_place_135 : decode cX1_place 135 = .ok (.iinc 5 1, 3) := dX1_place_122g.2.2.2.2.2.2.1
theorem dX1_place_138 : decode cX1_place 138 = .ok (.goto (-105), 3) := dX1_place_122g.2.2.2.2.2.2.2.1
theorem dX1_place_141 : decode cX1_place 141 = .ok (.return_, 1) := dX1_place_122g.2.2.2.2.2.2.2.2
set_option maxHeartbeats 4000000 in
set_option maxRecDepth 100000 in
theorem c_X1_place (l : Launch) (E : Nat → Nat) (D : va_G) (G : th_G) (k : Nat) : ∀ (h0 : Nat) (hG0 : G h0 = some (11, 0)) (x1 x2 x3 : Int32) (_ : (0 : Int) ≤ x1.toInt) (_ : (6 : Int) - x1.toInt ≤ (k : Int)), Met l yX1_place (tb (.code yX1_place cX1_place 7 none)) (rm (2 + k)) (va_Pc [.ref h0, .int x1, .int x2, .int x3] (th_P E D G)) (QV E D G) 0 0 (th_A G) := by
  induction k using Nat.strongRecOn with
  | ind k ih =>
  intro h0 hG0 x1 x2 x3 hx1 hk
  refine Met.ofW (cc := cX1_place) (maxL := 7) (ret := none) (by decide) rfl ?_
  intro p e s m args below meth c s₁ B hml hv
  obtain ⟨hav, hI, hN, hK⟩ := hv
  have hx := B.exec
  have hb := B.bytes
  have hr := B.returns
  have hts := atoms_spec (ws := tb (.code yX1_place cX1_place 7 none)) B.pre
  have hown : s.vm.findClass RX1 = some m.cls := findClass_of_methodNamed B.named
  have hlocks := B.notSynchronized
  have hS : va_S (th_A G) s.heap s.heap [] := va_S.rf
  have hl := lv_entry ([.ref h0, .int x1, .int x2, .int x3]) (n := 7) (Nat.le_of_ble_eq_true rfl)
  rw [show entryFrame m args 7 = entryFrame m ([.ref h0, .int x1, .int x2, .int x3] : List Value).toArray 7 from by rw [hav], lg_entry_eq]
  generalize (lg_sl ([.ref h0, .int x1, .int x2, .int x3]) ++ List.replicate (7 - (lg_sl ([.ref h0, .int x1, .int x2, .int x3])).length) Slot.unset).toArray = ls at hl ⊢
  have hl : lv_has ls 7 [(0, .ref h0), (1, .int x1), (2, .int x2), (3, .int x3)] := hl
  generalize hR : (headSpec (tb (.code yX1_place cX1_place 7 none)) (rm (2 + k))).room = R
  have hR := hR.symm
  generalize hQ : MQ below (QV E D G) args s 0 0 (th_A G) = QF
  have hQ := hQ.symm
  have J_33 : ∀ (nn : Nat) (H : Heap) (locs : List Loc) (ls : Array Slot) (v3073 : Int32) (v3074 : Int32), (Int.toNat (6 - v3073.toInt) = nn) → lv_has ls 7 [(5, .int v3073), (4, .int v3074), (0, .ref h0), (1, .int x1), (2, .int x2), (3, .int x3)] → ((0 : Int) ≤ v3073.toInt ∧ v3073.toInt ≤ 6) → ((1 : Int) ≤ v3074.toInt ∧ v3074.toInt ≤ 6) → ((0 : Int) ≤ x1.toInt ∧ x1.toInt ≤ 5) → th_I (okC E) D G [] H → va_S (th_A G) s.heap H locs → W p l e R s m args below meth c H locs 0 0 QF (F0 m 33 ls []) := by
    intro nn
    induction nn using Nat.strongRecOn with
    | ind nn ih_33 =>
      intro H locs ls v3073 v3074 hm hl k3075 k3076 k3077 hI hS
      have J_70 : ∀ (H : Heap) (locs : List Loc) (ls : Array Slot) (v3080 : Int32), lv_has ls 7 [(5, .int v3073), (4, .int v3074), (0, .ref h0), (1, .int x1), (2, .int x2), (3, .int x3)] → ((0 : Int) ≤ v3073.toInt ∧ v3073.toInt ≤ 5) → th_I (okC E) D G [] H → va_S (th_A G) s.heap H locs → W p l e R s m args below meth c H locs 0 0 QF (F0 m 70 ls [.int v3080]) := by
        intro H locs ls v3080 hl k3081 hI hS
        refine lv_istore (lv' := [(6, .int v3080), (5, .int v3073), (4, .int v3074), (0, .ref h0), (1, .int x1), (2, .int x2), (3, .int x3)]) hx hb dX1_place_70 hl (by decide) rfl (fun ls hl => ?_)
        refine lv_iload_n hx hb dX1_place_72 rfl (lv_at hl 5 rfl) ?_
        refine lv_iload hx hb dX1_place_73 (lv_at hl 1 rfl) ?_
        refine lv_ishr hx hb dX1_place_75 ?_
        refine lv_topi (fun v3082 e3083 => ?_)
        refine lv_iconst (v := 1) hx hb dX1_place_76 (by decide) ?_
        refine lv_iand hx hb dX1_place_77 ?_
        refine lv_topi (fun v3084 e3085 => ?_)
        have tv3084 := iv_andr (m := 1) (M := 1) e3085 (by decide) (by decide)
        refine lv_if_ne (tgt := 135) hx hb dX1_place_78 (by decide) (fun c3086 => ?_) (fun c3086 => ?_)
        · skip
          have k3087 := iv_ne (X := v3084.toInt) (Y := (0)) rfl (by decide) c3086
          obtain ⟨v3088, e3089⟩ : ∃ y : Int32, y = v3073 + (1) := ⟨_, rfl⟩
          have tv3088 : v3088.toInt = v3073.toInt + (1) := iv_add rfl (by decide) e3089 (by omega) (by omega)
          refine lv_iinc (v := v3088) (lv' := [(5, .int v3088), (6, .int v3080), (4, .int v3074), (0, .ref h0), (1, .int x1), (2, .int x2), (3, .int x3)]) hx hb dX1_place_135 hl (k := 1) rfl (by rw [e3089]; rfl) (by decide) rfl (fun ls hl => ?_)
          refine lv_goto (tgt := 33) hx hb dX1_place_138 (by decide) ?_
          exact ih_33 _ (by omega) H locs ls v3088 v3074 rfl (lv_sub hl [0, 2, 3, 4, 5, 6] rfl) ⟨by omega, by omega⟩ ⟨by omega, by omega⟩ ⟨by omega, by omega⟩ hI hS
        · skip
          have k3090 := iv_eq (X := v3084.toInt) (Y := (0)) rfl (by decide) c3086
          refine lv_iload hx hb dX1_place_81 (lv_at hl 0 rfl) ?_
          refine lv_iconst (v := (-1)) hx hb dX1_place_83 (by decide) ?_
          have k3091 := iv_lo v3080
          have k3092 := iv_hi v3080
          refine lv_icmp_eq (tgt := 135) hx hb dX1_place_84 (by decide) (fun c3093 => ?_) (fun c3093 => ?_)
          · skip
            have k3094 := iv_eq (X := v3080.toInt) (Y := (-1)) rfl (by decide) c3093
            obtain ⟨v3095, e3096⟩ : ∃ y : Int32, y = v3073 + (1) := ⟨_, rfl⟩
            have tv3095 : v3095.toInt = v3073.toInt + (1) := iv_add rfl (by decide) e3096 (by omega) (by omega)
            refine lv_iinc (v := v3095) (lv' := [(5, .int v3095), (6, .int v3080), (4, .int v3074), (0, .ref h0), (1, .int x1), (2, .int x2), (3, .int x3)]) hx hb dX1_place_135 hl (k := 1) rfl (by rw [e3096]; rfl) (by decide) rfl (fun ls hl => ?_)
            refine lv_goto (tgt := 33) hx hb dX1_place_138 (by decide) ?_
            exact ih_33 _ (by omega) H locs ls v3095 v3074 rfl (lv_sub hl [0, 2, 3, 4, 5, 6] rfl) ⟨by omega, by omega⟩ ⟨by omega, by omega⟩ ⟨by omega, by omega⟩ hI hS
          · skip
            have k3097 := iv_ne (X := v3080.toInt) (Y := (-1)) rfl (by decide) c3093
            refine lv_aload_n hx hb dX1_place_87 rfl (lv_at hl 3 rfl) ?_
            obtain ⟨a3098, a3100, a3102, a3104, a3106, a3108, a3110, a3112, w3114, w3115, w3116, hO, hq3099, hq3101, hq3103, hq3105, hq3107, hq3109, hq3111, hq3113⟩ := op_11 hI hG0 List.not_mem_nil
            have hI := th_I.weak (a := h0) hI
            refine th_get hx hb hts inT1 hown hK hO rfl 6 (by decide) (hts _ (tb_c wd_242)) rfl rfl dX1_place_88 ?_
            refine lv_iload_n hx hb dX1_place_91 rfl (lv_at hl 4 rfl) ?_
            refine lv_iload hx hb dX1_place_92 (lv_at hl 1 rfl) ?_
            obtain ⟨_, hA3117⟩ := op_0 hI hq3111 (th_ne hG0 hq3111 (show (11 : Nat) ≠ 0 by decide))
            refine th_iast hx hb hK hA3117 0 rfl hS ⟨_, hq3111⟩ (iv_in (X := x1.toInt) rfl (by omega) (by omega)) dX1_place_94 (fun H locs hA3117 oq hS => ?_)
            have hI := th_I.put hI hq3111 hA3117 ok_0 oq
            have hO := hO.kept (oq _ (fun z => th_ne hG0 hq3111 (show (11 : Nat) ≠ 0 by decide) (List.mem_singleton.mpr z.symm)))
            refine lv_aload_n hx hb dX1_place_95 rfl (lv_at hl 3 rfl) ?_
            refine th_get hx hb hts inT1 hown hK hO rfl 6 (by decide) (hts _ (tb_c wd_242)) rfl rfl dX1_place_96 ?_
            refine lv_bipush (v := 6) hx hb dX1_place_99 (by decide) ?_
            refine lv_iload_n hx hb dX1_place_101 rfl (lv_at hl 4 rfl) ?_
            refine lv_iadd hx hb dX1_place_102 ?_
            refine lv_topi (fun v3118 e3119 => ?_)
            have tv3118 : v3118.toInt = (6) + x1.toInt := iv_add (by decide) rfl e3119 (by omega) (by omega)
            refine lv_iload hx hb dX1_place_103 (lv_at hl 0 rfl) ?_
            obtain ⟨_, hA3120⟩ := op_0 hI hq3111 (th_ne hG0 hq3111 (show (11 : Nat) ≠ 0 by decide))
            refine th_iast hx hb hK hA3120 0 rfl hS ⟨_, hq3111⟩ (iv_in (X := v3118.toInt) rfl (by omega) (by omega)) dX1_place_105 (fun H locs hA3120 oq hS => ?_)
            have hI := th_I.put hI hq3111 hA3120 ok_0 oq
            have hO := hO.kept (oq _ (fun z => th_ne hG0 hq3111 (show (11 : Nat) ≠ 0 by decide) (List.mem_singleton.mpr z.symm)))
            refine lv_aload_n hx hb dX1_place_106 rfl (lv_at hl 3 rfl) ?_
            refine lv_iload_n hx hb dX1_place_107 rfl (lv_at hl 4 rfl) ?_
            refine lv_iconst (v := 1) hx hb dX1_place_108 (by decide) ?_
            refine lv_iadd hx hb dX1_place_109 ?_
            refine lv_topi (fun v3121 e3122 => ?_)
            have tv3121 : v3121.toInt = x1.toInt + (1) := iv_add rfl (by decide) e3122 (by omega) (by omega)
            refine lv_iload_n hx hb dX1_place_110 rfl (lv_at hl 5 rfl) ?_
            refine lv_iconst (v := 1) hx hb dX1_place_111 (by decide) ?_
            refine lv_iload hx hb dX1_place_112 (lv_at hl 1 rfl) ?_
            refine lv_ishl hx hb dX1_place_114 ?_
            refine lv_topi (fun v3123 e3124 => ?_)
            refine lv_ior hx hb dX1_place_115 ?_
            refine lv_topi (fun v3125 e3126 => ?_)
            refine lv_iload hx hb dX1_place_116 (lv_at hl 0 rfl) ?_
            refine lv_aload_n hx hb dX1_place_118 rfl (lv_at hl 3 rfl) ?_
            refine th_get hx hb hts inT1 hown hK hO rfl 0 (by decide) (hts _ (tb_c wd_236)) rfl rfl dX1_place_119 ?_
            have hI := th_I.close hI hG0 hO (ok_11 hq3099 hq3101 hq3103 hq3105 hq3107 hq3109 hq3111 hq3113)
            obtain ⟨a3127, a3129, a3131, a3133, a3135, a3137, a3139, a3141, a3143, a3145, w3147, w3150, w3151, w3152, hO, hq3128, hq3130, hq3132, hq3134, hq3136, hq3138, hq3140, hq3142, hq3144, hq3146, ⟨k3148, k3149⟩, k3153⟩ := op_6 hI hq3099 List.not_mem_nil
            have hI := th_I.weak (a := a3098) hI
            refine th_getN hx hb hts inT6 hown hK hN hO rfl 7 (by decide) wn_76 rfl rfl dX1_place_122 ?_
            refine lv_iload hx hb dX1_place_125 (lv_at hl 1 rfl) ?_
            refine lv_iconst (v := 1) hx hb dX1_place_127 (by decide) ?_
            have hI := th_I.close hI hq3099 hO (ok_6 hq3128 hq3130 hq3132 hq3134 hq3136 hq3138 hq3140 hq3142 hq3144 hq3146 ⟨by omega, by omega⟩ k3153)
            refine th_cVi (As := [.int v3073, .int 1]) (rest := [.int v3080, .int v3125, .int v3121, .ref h0]) (n := 2) (d := 0) ⟨hx, hb, hml, hown, hts⟩ (c_X4_at l E D G a3141 (6) hq3142 v3073 1) wd_925 wd_519 wd_520 wd_3 wd_521 (by decide +kernel) ⟨by rw [hR]; show 0 + 1 ≤ 2 + k; omega, by rw [hR]; show 8 + (3 + 11) + 40 * (0) ≤ 40 * (2 + k); omega⟩ hI hN hK hS (rc_4 hI hq3142 List.not_mem_nil) rfl rfl hl.1 rfl (Nat.le_of_ble_eq_true rfl) dX1_place_128 ⟨Nat.zero_le _, Nat.zero_le _⟩ (fun r3154 H locs hp hI hS => ?_)
            refine lv_iadd hx hb dX1_place_131 ?_
            refine lv_topi (fun v3155 e3156 => ?_)
            try have tv3155 : v3155.toInt = v3080.toInt + r3154.toInt := iv_add rfl rfl e3156 (by omega) (by omega)
            refine th_cVv (As := [.int v3121, .int v3125, .int v3155]) (rest := []) (n := 3) (d := (2 + (k - 1))) ⟨hx, hb, hml, hown, hts⟩ (ih (k - 1) (by omega) h0 hG0 v3121 v3125 v3155 (by omega) (by omega)) wd_1070 wd_1072 wp_34 wd_9 wd_1073 (by decide +kernel) ⟨by rw [hR]; show (2 + (k - 1)) + 1 ≤ 2 + k; omega, by rw [hR]; show 8 + (7 + 11) + 40 * ((2 + (k - 1))) ≤ 40 * (2 + k); omega⟩ hI hN hK hS (rc_11 hI hG0 List.not_mem_nil) rfl rfl hl.1 rfl (Nat.le_of_ble_eq_true rfl) dX1_place_132 ⟨Nat.zero_le _, Nat.zero_le _⟩ (fun H locs hI hS => ?_)
            obtain ⟨v3158, e3159⟩ : ∃ y : Int32, y = v3073 + (1) := ⟨_, rfl⟩
            have tv3158 : v3158.toInt = v3073.toInt + (1) := iv_add rfl (by decide) e3159 (by omega) (by omega)
            refine lv_iinc (v := v3158) (lv' := [(5, .int v3158), (6, .int v3080), (4, .int v3074), (0, .ref h0), (1, .int x1), (2, .int x2), (3, .int x3)]) hx hb dX1_place_135 hl (k := 1) rfl (by rw [e3159]; rfl) (by decide) rfl (fun ls hl => ?_)
            refine lv_goto (tgt := 33) hx hb dX1_place_138 (by decide) ?_
            exact ih_33 _ (by omega) H locs ls v3158 v3074 rfl (lv_sub hl [0, 2, 3, 4, 5, 6] rfl) ⟨by omega, by omega⟩ ⟨by omega, by omega⟩ ⟨by omega, by omega⟩ hI hS
      refine lv_iload hx hb dX1_place_33 (lv_at hl 0 rfl) ?_
      refine lv_iload hx hb dX1_place_35 (lv_at hl 1 rfl) ?_
      refine lv_icmp_ge (tgt := 141) hx hb dX1_place_37 (by decide) (fun c3160 => ?_) (fun c3160 => ?_)
      · skip
        have k3161 := iv_le (X := v3074.toInt) (Y := v3073.toInt) rfl rfl c3160
        rw [hQ]
        exact W.vret hx hb hr (fun t ht hW => ⟨⟨(), rfl, trivial, by rw [ht]; exact hI, hN.warm hW, va_K.moved hW.alike hK⟩, hS.F ht⟩) hS.2.2 dX1_place_141
      · skip
        have k3162 := iv_nle (X := v3074.toInt) (Y := v3073.toInt) rfl rfl c3160
        refine lv_iload hx hb dX1_place_40 (lv_at hl 0 rfl) ?_
        refine lv_bipush (v := 6) hx hb dX1_place_42 (by decide) ?_
        refine lv_icmp_ge (tgt := 141) hx hb dX1_place_44 (by decide) (fun c3163 => ?_) (fun c3163 => ?_)
        · skip
          have k3164 := iv_le (X := (6)) (Y := v3073.toInt) (by decide) rfl c3163
          exfalso; omega
        · skip
          have k3165 := iv_nle (X := (6)) (Y := v3073.toInt) (by decide) rfl c3163
          refine lv_iload_n hx hb dX1_place_47 rfl (lv_at hl 5 rfl) ?_
          refine th_cSN (As := [.int x3]) (rest := []) (n := 1) (d := 0) ⟨hx, hb, hml, hown, hts⟩ (c_X11_isMoment l H x3) wn_1079 wd_827 wd_1 wd_828 (by decide +kernel) ⟨by rw [hR]; show 0 + 1 ≤ 2 + k; omega, by rw [hR]; show 8 + (1 + 11) + 40 * (0) ≤ 40 * (2 + k); omega⟩ hN hS rfl hl.1 rfl (Nat.le_of_ble_eq_true rfl) dX1_place_48 ⟨Nat.zero_le _, Nat.zero_le _⟩ (fun r3166 locs hp hS => ?_)
          rcases hp with ⟨rfl, hp⟩ | ⟨rfl, hp⟩
          · skip
            try simp only [rg, not_and, Int.not_le] at hp
            have hp3167 := hp
            refine lv_if_eq (tgt := 69) hx hb dX1_place_51 (by decide) (fun c => absurd c (by decide)) (fun _ => ?_)
            refine lv_aload_n hx hb dX1_place_54 rfl (lv_at hl 2 rfl) ?_
            obtain ⟨a3168, a3170, a3172, a3174, a3176, a3178, a3180, a3182, w3184, w3185, w3186, hO, hq3169, hq3171, hq3173, hq3175, hq3177, hq3179, hq3181, hq3183⟩ := op_11 hI hG0 List.not_mem_nil
            have hI := th_I.weak (a := h0) hI
            refine th_get hx hb hts inT1 hown hK hO rfl 5 (by decide) (hts _ (tb_c wd_241)) rfl rfl dX1_place_55 ?_
            refine lv_iload hx hb dX1_place_58 (lv_at hl 0 rfl) ?_
            refine lv_bipush (v := 97) hx hb dX1_place_60 (by decide) ?_
            refine lv_imul hx hb dX1_place_62 ?_
            refine lv_topi (fun v3187 e3188 => ?_)
            have tv3187 : v3187.toInt = v3073.toInt * (97) := iv_mul rfl (by decide) e3188 (by omega) (by omega)
            refine lv_iload_n hx hb dX1_place_63 rfl (lv_at hl 5 rfl) ?_
            refine lv_iadd hx hb dX1_place_64 ?_
            refine lv_topi (fun v3189 e3190 => ?_)
            have tv3189 : v3189.toInt = v3187.toInt + x3.toInt := iv_add rfl rfl e3190 (by omega) (by omega)
            obtain ⟨_, hA3191⟩ := op_0 hI hq3179 (th_ne hG0 hq3179 (show (11 : Nat) ≠ 0 by decide))
            refine th_iald hx hb hK hA3191 0 rfl (iv_in (X := v3189.toInt) rfl (by omega) (by omega)) dX1_place_65 (fun v3192 _ => ?_)
            refine lv_goto (tgt := 70) hx hb dX1_place_66 (by decide) ?_
            have hI := th_I.close hI hG0 hO (ok_11 hq3169 hq3171 hq3173 hq3175 hq3177 hq3179 hq3181 hq3183)
            exact J_70 H locs ls v3192 (lv_sub hl [0, 1, 2, 3, 4, 5] rfl) ⟨by omega, by omega⟩ hI hS
          · skip
            try simp only [rg, not_and, Int.not_le] at hp
            have hp3193 := hp
            refine lv_if_eq (tgt := 69) hx hb dX1_place_51 (by decide) (fun _ => ?_) (fun c => absurd c (by decide))
            refine lv_iconst (v := (-1)) hx hb dX1_place_69 (by decide) ?_
            exact J_70 H locs ls (-1) (lv_sub hl [0, 1, 2, 3, 4, 5] rfl) ⟨by omega, by omega⟩ hI hS
  have J_24 : ∀ (H : Heap) (locs : List Loc) (ls : Array Slot) (v3194 : Int32), lv_has ls 7 [(4, .int v3194), (0, .ref h0), (1, .int x1), (2, .int x2), (3, .int x3)] → ((0 : Int) ≤ v3194.toInt ∧ v3194.toInt ≤ 6) → ((0 : Int) ≤ x1.toInt) → th_I (okC E) D G [] H → va_S (th_A G) s.heap H locs → W p l e R s m args below meth c H locs 0 0 QF (F0 m 24 ls []) := by
    intro H locs ls v3194 hl k3195 k3196 hI hS
    refine lv_aload_n hx hb dX1_place_24 rfl (lv_at hl 1 rfl) ?_
    refine lv_iload_n hx hb dX1_place_25 rfl (lv_at hl 4 rfl) ?_
    refine th_cVv (As := [.int x3]) (rest := []) (n := 1) (d := 1) ⟨hx, hb, hml, hown, hts⟩ (c_X1_finish l E D G h0 hG0 x3) wd_1074 wd_1076 wp_35 wd_9 wd_1077 (by decide +kernel) ⟨by rw [hR]; show 1 + 1 ≤ 2 + k; omega, by rw [hR]; show 8 + (2 + 11) + 40 * (1) ≤ 40 * (2 + k); omega⟩ hI hN hK hS (rc_11 hI hG0 List.not_mem_nil) rfl rfl hl.1 rfl (Nat.le_of_ble_eq_true rfl) dX1_place_26 ⟨Nat.zero_le _, Nat.zero_le _⟩ (fun H locs hI hS => ?_)
    rw [hQ]
    exact W.vret hx hb hr (fun t ht hW => ⟨⟨(), rfl, trivial, by rw [ht]; exact hI, hN.warm hW, va_K.moved hW.alike hK⟩, hS.F ht⟩) hS.2.2 dX1_place_29
  refine lv_aload_n hx hb dX1_place_0 rfl (lv_at hl 0 rfl) ?_
  obtain ⟨a3198, a3200, a3202, a3204, a3206, a3208, a3210, a3212, w3214, w3215, w3216, hO, hq3199, hq3201, hq3203, hq3205, hq3207, hq3209, hq3211, hq3213⟩ := op_11 hI hG0 List.not_mem_nil
  have hI := th_I.weak (a := h0) hI
  refine th_get hx hb hts inT1 hown hK hO rfl 0 (by decide) (hts _ (tb_c wd_236)) rfl rfl dX1_place_1 ?_
  have hI := th_I.close hI hG0 hO (ok_11 hq3199 hq3201 hq3203 hq3205 hq3207 hq3209 hq3211 hq3213)
  obtain ⟨a3217, a3219, a3221, a3223, a3225, a3227, a3229, a3231, a3233, a3235, w3237, w3240, w3241, w3242, hO, hq3218, hq3220, hq3222, hq3224, hq3226, hq3228, hq3230, hq3232, hq3234, hq3236, ⟨k3238, k3239⟩, k3243⟩ := op_6 hI hq3199 List.not_mem_nil
  have hI := th_I.weak (a := a3198) hI
  refine th_getN hx hb hts inT6 hown hK hN hO rfl 7 (by decide) wn_76 rfl rfl dX1_place_4 ?_
  have hI := th_I.close hI hq3199 hO (ok_6 hq3218 hq3220 hq3222 hq3224 hq3226 hq3228 hq3230 hq3232 hq3234 hq3236 ⟨by omega, by omega⟩ k3243)
  obtain ⟨a3245, w3247, hO, hq3246, ⟨k3248, k3249⟩, k3250⟩ := op_4 hI hq3232 List.not_mem_nil
  have hI := th_I.weak (a := a3231) hI
  have k3251 : (nI (6 % 32)).toInt = ((6 % 32 : Nat) : Int) := nI_toInt (by omega)
  have k3252 := k3250.1
  refine th_cVs (As := []) (rest := []) (n := 0) (d := 0) ⟨hx, hb, hml, hown, hts⟩ (c_X4_size l E D s.heap a3231 (6 % 32) a3245 w3247 hO (by omega) (by omega) (by omega)) wd_920 wd_507 wd_508 wd_3 wd_509 (by decide +kernel) ⟨by rw [hR]; show 0 + 1 ≤ 2 + k; omega, by rw [hR]; show 8 + (1 + 11) + 40 * (0) ≤ 40 * (2 + k); omega⟩ hN hK hS ⟨_, hO⟩ rfl rfl hl.1 rfl (Nat.le_of_ble_eq_true rfl) dX1_place_7 ⟨Nat.zero_le _, Nat.zero_le _⟩ (fun r3244 locs hp hS => ?_)
  have hp := hp.symm
  subst hp
  refine lv_istore (lv' := [(4, .int w3247), (0, .ref h0), (1, .int x1), (2, .int x2), (3, .int x3)]) hx hb dX1_place_10 hl (by decide) rfl (fun ls hl => ?_)
  refine lv_iload_n hx hb dX1_place_12 rfl (lv_at hl 2 rfl) ?_
  refine lv_iload hx hb dX1_place_13 (lv_at hl 0 rfl) ?_
  have k3253 := iv_lo x1
  have k3254 := iv_hi x1
  refine lv_icmp_ge (tgt := 24) hx hb dX1_place_15 (by decide) (fun c3255 => ?_) (fun c3255 => ?_)
  · skip
    have k3256 := iv_le (X := w3247.toInt) (Y := x1.toInt) rfl rfl c3255
    have hI := th_I.close hI hq3232 hO (ok_4 hq3246 ⟨by omega, by omega⟩ k3250)
    exact J_24 s.heap locs ls w3247 (lv_sub hl [0, 1, 2, 3, 4] rfl) ⟨by omega, by omega⟩ (by omega) hI hS
  · skip
    have k3257 := iv_nle (X := w3247.toInt) (Y := x1.toInt) rfl rfl c3255
    refine lv_iload_n hx hb dX1_place_18 rfl (lv_at hl 2 rfl) ?_
    refine lv_bipush (v := 6) hx hb dX1_place_19 (by decide) ?_
    refine lv_icmp_lt (tgt := 30) hx hb dX1_place_21 (by decide) (fun c3258 => ?_) (fun c3258 => ?_)
    · skip
      have k3259 := iv_lt (X := x1.toInt) (Y := (6)) rfl (by decide) c3258
      refine lv_iconst (v := 0) hx hb dX1_place_30 (by decide) ?_
      refine lv_istore (lv' := [(5, .int 0), (4, .int w3247), (0, .ref h0), (1, .int x1), (2, .int x2), (3, .int x3)]) hx hb dX1_place_31 hl (by decide) rfl (fun ls hl => ?_)
      have hI := th_I.close hI hq3232 hO (ok_4 hq3246 ⟨by omega, by omega⟩ k3250)
      have zl : (0 : Int32).toInt = 0 := by decide
      exact J_33 _ s.heap locs ls 0 w3247 rfl (lv_sub hl [0, 1, 2, 3, 4, 5] rfl) ⟨by decide, by decide⟩ ⟨by omega, by omega⟩ ⟨by omega, by omega⟩ hI hS
    · skip
      have k3260 := iv_nlt (X := x1.toInt) (Y := (6)) rfl (by decide) c3258
      exfalso; omega
theorem dX1_wash_0g : (decode cX1_wash 0 = .ok (.aload_n 0, 1)) ∧ (decode cX1_wash 1 = .ok (.iconst (-1), 1)) ∧ (decode cX1_wash 2 = .ok (.putfield 27, 3)) ∧ (decode cX1_wash 5 = .ok (.aload_n 0, 1)) ∧ (decode cX1_wash 6 = .ok (.iconst 0, 1)) ∧ (decode cX1_wash 7 = .ok (.putfield 31, 3)) ∧ (decode cX1_wash 10 = .ok (.aload_n 0, 1)) ∧ (decode cX1_wash 11 = .ok (.invokevirtual 101, 3)) ∧ (decode cX1_wash 14 = .ok (.iconst 0, 1)) ∧ (decode cX1_wash 15 = .ok (.istore_n 1, 1)) := by decide +kernel
theorem dX1_wash_0 : decode cX1_wash 0 = .ok (.aload_n 0, 1) := dX1_wash_0g.1
theorem dX1_wash_1 : decode cX1_wash 1 = .ok (.iconst (-1), 1) := dX1_wash_0g.2.1
theorem dX1_wash_2 : decode cX1_wash 2 = .ok (.putfield 27, 3) := dX1_wash_0g.2.2.1
theorem dX1_wash_5 : decode cX1_wash 5 = .ok (.aload_n 0, 1) := dX1_wash_0g.2.2.2.1
theorem dX1_wash_6 : decode cX1_wash 6 = .ok (.iconst 0, 1) := dX1_wash_0g.2.2.2.2.1
theorem dX1_wash_7 : decode cX1_wash 7 = .ok (.putfield 31, 3) := dX1_wash_0g.2.2.2.2.2.1
theorem dX1_wash_10 : decode cX1_wash 10 = .ok (.aload_n 0, 1) := dX1_wash_0g.2.2.2.2.2.2.1
theorem dX1_wash_11 : decode cX1_wash 11 = .ok (.invokevirtual 101, 3) := dX1_wash_0g.2.2.2.2.2.2.2.1
theorem dX1_wash_14 : decode cX1_wash 14 = .ok (.iconst 0, 1) := dX1_wash_0g.2.2.2.2.2.2.2.2.1
theorem dX1_wash_15 : decode cX1_wash 15 = .ok (.istore_n 1, 1) := dX1_wash_0g.2.2.2.2.2.2.2.2.2
theorem dX1_wash_16g : (decode cX1_wash 16 = .ok (.iload_n 1, 1)) ∧ (decode cX1_wash 17 = .ok (.aload_n 0, 1)) ∧ (decode cX1_wash 18 = .ok (.getfield 38, 3)) ∧ (decode cX1_wash 21 = .ok (.getfield 93, 3)) ∧ (decode cX1_wash 24 = .ok (.invokevirtual 56, 3)) ∧ (decode cX1_wash 27 = .ok (.if_icmp .ge 20, 3)) ∧ (decode cX1_wash 30 = .ok (.iload_n 1, 1)) ∧ (decode cX1_wash 31 = .ok (.bipush 6, 2)) ∧ (decode cX1_wash 33 = .ok (.if_icmp .ge 14, 3)) ∧ (decode cX1_wash 36 = .ok (.aload_n 0, 1)) := by decide +kernel
theorem dX1_wash_16 : decode cX1_wash 16 = .ok (.iload_n 1, 1) := dX1_wash_16g.1
theorem dX1_wash_17 : decode cX1_wash 17 = .ok (.aload_n 0, 1) := dX1_wash_16g.2.1
theorem dX1_wash_18 : decode cX1_wash 18 = .ok (.getfield 38, 3) := dX1_wash_16g.2.2.1
theorem dX1_wash_21 : decode cX1_wash 21 = .ok (.getfield 93, 3) := dX1_wash_16g.2.2.2.1
theorem dX1_wash_24 : decode cX1_wash 24 = .ok (.invokevirtual 56, 3) := dX1_wash_16g.2.2.2.2.1
theorem dX1_wash_27 : decode cX1_wash 27 = .ok (.if_icmp .ge 20, 3) := dX1_wash_16g.2.2.2.2.2.1
theorem dX1_wash_30 : decode cX1_wash 30 = .ok (.iload_n 1, 1) := dX1_wash_16g.2.2.2.2.2.2.1
theorem dX1_wash_31 : decode cX1_wash 31 = .ok (.bipush 6, 2) := dX1_wash_16g.2.2.2.2.2.2.2.1
theorem dX1_wash_33 : decode cX1_wash 33 = .ok (.if_icmp .ge 14, 3) := dX1_wash_16g.2.2.2.2.2.2.2.2.1
theorem dX1_wash_36 : decode cX1_wash 36 = .ok (.aload_n 0, 1) := dX1_wash_16g.2.2.2.2.2.2.2.2.2
theorem dX1_wash_37g : (decode cX1_wash 37 = .ok (.iload_n 1, 1)) ∧ (decode cX1_wash 38 = .ok (.invokevirtual 104, 3)) ∧ (decode cX1_wash 41 = .ok (.iinc 1 1, 3)) ∧ (decode cX1_wash 44 = .ok (.goto (-28), 3)) ∧ (decode cX1_wash 47 = .ok (.aload_n 0, 1)) ∧ (decode cX1_wash 48 = .ok (.iconst 0, 1)) ∧ (decode cX1_wash 49 = .ok (.iconst 0, 1)) ∧ (decode cX1_wash 50 = .ok (.iconst 0, 1)) ∧ (decode cX1_wash 51 = .ok (.invokevirtual 108, 3)) ∧ (decode cX1_wash 54 = .ok (.return_, 1)) := by decide +kernel
theorem dX1_wash_37 : decode cX1_wash 37 = .ok (.iload_n 1, 1) := dX1_wash_37g.1
theorem dX1_wash_38 : decode cX1_wash 38 = .ok (.invokevirtual 104, 3) := dX1_wash_37g.2.1
theorem dX1_wash_41 : decode cX1_wash 41 = .ok (.iinc 1 1, 3) := dX1_wash_37g.2.2.1
theorem dX1_wash_44 : decode cX1_wash 44 = .ok (.goto (-28), 3) := dX1_wash_37g.2.2.2.1
theorem dX1_wash_47 : decode cX1_wash 47 = .ok (.aload_n 0, 1) := dX1_wash_37g.2.2.2.2.1
theorem dX1_wash_48 : decode cX1_wash 48 = .ok (.iconst 0, 1) := dX1_wash_37g.2.2.2.2.2.1
theorem dX1_wash_49 : decode cX1_wash 49 = .ok (.iconst 0, 1) := dX1_wash_37g.2.2.2.2.2.2.1
theorem dX1_wash_50 : decode cX1_wash 50 = .ok (.iconst 0, 1) := dX1_wash_37g.2.2.2.2.2.2.2.1
theorem dX1_wash_51 : decode cX1_wash 51 = .ok (.invokevirtual 108, 3) := dX1_wash_37g.2.2.2.2.2.2.2.2.1
theorem dX1_wash_54 : decode cX1_wash 54 = .ok (.return_, 1) := dX1_wash_37g.2.2.2.2.2.2.2.2.2
set_option maxHeartbeats 4000000 in
set_option maxRecDepth 100000 in
theorem c_X1_wash (l : Launch) (E : Nat → Nat) (D : va_G) (G : th_G) (h0 : Nat) (hG0 : G h0 = some (11, 0)) : Met l yX1_wash (tb (.code yX1_wash cX1_wash 2 none)) (rm 9) (va_Pc [.ref h0] (th_P E D G)) (QV E D G) 0 0 (th_A G) := by
  refine Met.ofW (cc := cX1_wash) (maxL := 2) (ret := none) (by decide) rfl ?_
  intro p e s m args below meth c s₁ B hml hv
  obtain ⟨hav, hI, hN, hK⟩ := hv
  have hx := B.exec
  have hb := B.bytes
  have hr := B.returns
  have hts := atoms_spec (ws := tb (.code yX1_wash cX1_wash 2 none)) B.pre
  have hown : s.vm.findClass RX1 = some m.cls := findClass_of_methodNamed B.named
  have hlocks := B.notSynchronized
  have hS : va_S (th_A G) s.heap s.heap [] := va_S.rf
  have hl := lv_entry ([.ref h0]) (n := 2) (Nat.le_of_ble_eq_true rfl)
  rw [show entryFrame m args 2 = entryFrame m ([.ref h0] : List Value).toArray 2 from by rw [hav], lg_entry_eq]
  generalize (lg_sl ([.ref h0]) ++ List.replicate (2 - (lg_sl ([.ref h0])).length) Slot.unset).toArray = ls at hl ⊢
  have hl : lv_has ls 2 [(0, .ref h0)] := hl
  generalize hR : (headSpec (tb (.code yX1_wash cX1_wash 2 none)) (rm 9)).room = R
  have hR := hR.symm
  generalize hQ : MQ below (QV E D G) args s 0 0 (th_A G) = QF
  have hQ := hQ.symm
  have J_16 : ∀ (nn : Nat) (H : Heap) (locs : List Loc) (ls : Array Slot) (v1052 : Int32), (Int.toNat (6 - v1052.toInt) = nn) → lv_has ls 2 [(1, .int v1052), (0, .ref h0)] → ((0 : Int) ≤ v1052.toInt ∧ v1052.toInt ≤ 6) → th_I (okC E) D G [] H → va_S (th_A G) s.heap H locs → W p l e R s m args below meth c H locs 0 0 QF (F0 m 16 ls []) := by
    intro nn
    induction nn using Nat.strongRecOn with
    | ind nn ih_16 =>
      intro H locs ls v1052 hm hl k1053 hI hS
      refine lv_iload_n hx hb dX1_wash_16 rfl (lv_at hl 0 rfl) ?_
      refine lv_aload_n hx hb dX1_wash_17 rfl (lv_at hl 1 rfl) ?_
      obtain ⟨a1054, a1056, a1058, a1060, a1062, a1064, a1066, a1068, w1070, w1071, w1072, hO, hq1055, hq1057, hq1059, hq1061, hq1063, hq1065, hq1067, hq1069⟩ := op_11 hI hG0 List.not_mem_nil
      have hI := th_I.weak (a := h0) hI
      refine th_get hx hb hts inT1 hown hK hO rfl 0 (by decide) (hts _ (tb_c wd_236)) rfl rfl dX1_wash_18 ?_
      have hI := th_I.close hI hG0 hO (ok_11 hq1055 hq1057 hq1059 hq1061 hq1063 hq1065 hq1067 hq1069)
      obtain ⟨a1073, a1075, a1077, a1079, a1081, a1083, a1085, a1087, a1089, a1091, w1093, w1096, w1097, w1098, hO, hq1074, hq1076, hq1078, hq1080, hq1082, hq1084, hq1086, hq1088, hq1090, hq1092, ⟨k1094, k1095⟩, k1099⟩ := op_6 hI hq1055 List.not_mem_nil
      have hI := th_I.weak (a := a1054) hI
      refine th_getN hx hb hts inT6 hown hK hN hO rfl 7 (by decide) wn_76 rfl rfl dX1_wash_21 ?_
      have hI := th_I.close hI hq1055 hO (ok_6 hq1074 hq1076 hq1078 hq1080 hq1082 hq1084 hq1086 hq1088 hq1090 hq1092 ⟨by omega, by omega⟩ k1099)
      obtain ⟨a1101, w1103, hO, hq1102, ⟨k1104, k1105⟩, k1106⟩ := op_4 hI hq1088 List.not_mem_nil
      have hI := th_I.weak (a := a1087) hI
      have k1107 : (nI (6 % 32)).toInt = ((6 % 32 : Nat) : Int) := nI_toInt (by omega)
      have k1108 := k1106.1
      refine th_cVs (As := []) (rest := [.int v1052]) (n := 0) (d := 0) ⟨hx, hb, hml, hown, hts⟩ (c_X4_size l E D H a1087 (6 % 32) a1101 w1103 hO (by omega) (by omega) (by omega)) wd_920 wd_507 wd_508 wd_3 wd_509 (by decide +kernel) ⟨by rw [hR]; exact Nat.le_of_ble_eq_true rfl, by rw [hR]; exact Nat.le_of_ble_eq_true rfl⟩ hN hK hS ⟨_, hO⟩ rfl rfl hl.1 rfl (Nat.le_of_ble_eq_true rfl) dX1_wash_24 ⟨Nat.zero_le _, Nat.zero_le _⟩ (fun r1100 locs hp hS => ?_)
      have hp := hp.symm
      subst hp
      refine lv_icmp_ge (tgt := 47) hx hb dX1_wash_27 (by decide) (fun c1109 => ?_) (fun c1109 => ?_)
      · skip
        have k1110 := iv_le (X := w1103.toInt) (Y := v1052.toInt) rfl rfl c1109
        refine lv_aload_n hx hb dX1_wash_47 rfl (lv_at hl 1 rfl) ?_
        refine lv_iconst (v := 0) hx hb dX1_wash_48 (by decide) ?_
        refine lv_iconst (v := 0) hx hb dX1_wash_49 (by decide) ?_
        refine lv_iconst (v := 0) hx hb dX1_wash_50 (by decide) ?_
        have hI := th_I.close hI hq1088 hO (ok_4 hq1102 ⟨by omega, by omega⟩ k1106)
        refine th_cVv (As := [.int 0, .int 0, .int 0]) (rest := []) (n := 3) (d := 8) ⟨hx, hb, hml, hown, hts⟩ (c_X1_place l E D G 6 h0 hG0 0 0 0 (by decide) (by decide)) wd_1070 wd_1072 wp_34 wd_9 wd_1073 (by decide +kernel) ⟨by rw [hR]; exact Nat.le_of_ble_eq_true rfl, by rw [hR]; exact Nat.le_of_ble_eq_true rfl⟩ hI hN hK hS (rc_11 hI hG0 List.not_mem_nil) rfl rfl hl.1 rfl (Nat.le_of_ble_eq_true rfl) dX1_wash_51 ⟨Nat.zero_le _, Nat.zero_le _⟩ (fun H locs hI hS => ?_)
        rw [hQ]
        exact W.vret hx hb hr (fun t ht hW => ⟨⟨(), rfl, trivial, by rw [ht]; exact hI, hN.warm hW, va_K.moved hW.alike hK⟩, hS.F ht⟩) hS.2.2 dX1_wash_54
      · skip
        have k1112 := iv_nle (X := w1103.toInt) (Y := v1052.toInt) rfl rfl c1109
        refine lv_iload_n hx hb dX1_wash_30 rfl (lv_at hl 0 rfl) ?_
        refine lv_bipush (v := 6) hx hb dX1_wash_31 (by decide) ?_
        refine lv_icmp_ge (tgt := 47) hx hb dX1_wash_33 (by decide) (fun c1113 => ?_) (fun c1113 => ?_)
        · skip
          have k1114 := iv_le (X := (6)) (Y := v1052.toInt) (by decide) rfl c1113
          exfalso; omega
        · skip
          have k1115 := iv_nle (X := (6)) (Y := v1052.toInt) (by decide) rfl c1113
          refine lv_aload_n hx hb dX1_wash_36 rfl (lv_at hl 1 rfl) ?_
          refine lv_iload_n hx hb dX1_wash_37 rfl (lv_at hl 0 rfl) ?_
          have hI := th_I.close hI hq1088 hO (ok_4 hq1102 ⟨by omega, by omega⟩ k1106)
          refine th_cVv (As := [.int v1052]) (rest := []) (n := 1) (d := 1) ⟨hx, hb, hml, hown, hts⟩ (c_X1_findBegins l E D G h0 hG0 v1052 ⟨by omega, by omega⟩) wd_1066 wd_1068 wp_33 wd_9 wd_1069 (by decide +kernel) ⟨by rw [hR]; exact Nat.le_of_ble_eq_true rfl, by rw [hR]; exact Nat.le_of_ble_eq_true rfl⟩ hI hN hK hS (rc_11 hI hG0 List.not_mem_nil) rfl rfl hl.1 rfl (Nat.le_of_ble_eq_true rfl) dX1_wash_38 ⟨Nat.zero_le _, Nat.zero_le _⟩ (fun H locs hI hS => ?_)
          obtain ⟨v1117, e1118⟩ : ∃ y : Int32, y = v1052 + (1) := ⟨_, rfl⟩
          have tv1117 : v1117.toInt = v1052.toInt + (1) := iv_add rfl (by decide) e1118 (by omega) (by omega)
          refine lv_iinc (v := v1117) (lv' := [(1, .int v1117), (0, .ref h0)]) hx hb dX1_wash_41 hl (k := 0) rfl (by rw [e1118]; rfl) (by decide) rfl (fun ls hl => ?_)
          refine lv_goto (tgt := 16) hx hb dX1_wash_44 (by decide) ?_
          exact ih_16 _ (by omega) H locs ls v1117 rfl (lv_sub hl [0, 1] rfl) ⟨by omega, by omega⟩ hI hS
  refine lv_aload_n hx hb dX1_wash_0 rfl (lv_at hl 0 rfl) ?_
  refine lv_iconst (v := (-1)) hx hb dX1_wash_1 (by decide) ?_
  obtain ⟨a1119, a1121, a1123, a1125, a1127, a1129, a1131, a1133, w1135, w1136, w1137, hO, hq1120, hq1122, hq1124, hq1126, hq1128, hq1130, hq1132, hq1134⟩ := op_11 hI hG0 List.not_mem_nil
  have hI := th_I.weak (a := h0) hI
  refine th_put (ty := .int) hx hb hts inT1 tyX1 tyX1_ok nmX1 hown hK hO hS ⟨_, hG0⟩ rfl 8 (by decide) (hts _ (tb_c wd_244)) rfl rfl (by decide +kernel) rfl rfl (Nat.le_of_ble_eq_true rfl) dX1_wash_2 (fun H locs hO oq hS => ?_)
  have hI := th_I.moved hI oq
  have hO : va_at D vwCl (h0, .inr (1, [.ref a1119, .ref a1121, .ref a1123, .ref a1125, .ref a1127, .ref a1129, .ref a1131, .ref a1133, .int (-1), .int w1136, .int w1137])) H := hO
  refine lv_aload_n hx hb dX1_wash_5 rfl (lv_at hl 0 rfl) ?_
  refine lv_iconst (v := 0) hx hb dX1_wash_6 (by decide) ?_
  refine th_put (ty := .int) hx hb hts inT1 tyX1 tyX1_ok nmX1 hown hK hO hS ⟨_, hG0⟩ rfl 9 (by decide) (hts _ (tb_c wd_245)) rfl rfl (by decide +kernel) rfl rfl (Nat.le_of_ble_eq_true rfl) dX1_wash_7 (fun H locs hO oq hS => ?_)
  have hI := th_I.moved hI oq
  have hO : va_at D vwCl (h0, .inr (1, [.ref a1119, .ref a1121, .ref a1123, .ref a1125, .ref a1127, .ref a1129, .ref a1131, .ref a1133, .int (-1), .int 0, .int w1137])) H := hO
  refine lv_aload_n hx hb dX1_wash_10 rfl (lv_at hl 0 rfl) ?_
  have hI := th_I.close hI hG0 hO (ok_11 hq1120 hq1122 hq1124 hq1126 hq1128 hq1130 hq1132 hq1134)
  refine th_cVv (As := []) (rest := []) (n := 0) (d := 5) ⟨hx, hb, hml, hown, hts⟩ (c_X1_tint l E D G h0 hG0 ) wd_1062 wd_1064 wp_32 wd_9 wd_1065 (by decide +kernel) ⟨by rw [hR]; exact Nat.le_of_ble_eq_true rfl, by rw [hR]; exact Nat.le_of_ble_eq_true rfl⟩ hI hN hK hS (rc_11 hI hG0 List.not_mem_nil) rfl rfl hl.1 rfl (Nat.le_of_ble_eq_true rfl) dX1_wash_11 ⟨Nat.zero_le _, Nat.zero_le _⟩ (fun H locs hI hS => ?_)
  refine lv_iconst (v := 0) hx hb dX1_wash_14 (by decide) ?_
  refine lv_istore_n (lv' := [(1, .int 0), (0, .ref h0)]) hx hb dX1_wash_15 rfl hl (by decide) rfl (fun ls hl => ?_)
  have zl : (0 : Int32).toInt = 0 := by decide
  exact J_16 _ H locs ls 0 rfl (lv_sub hl [0, 1] rfl) ⟨by decide, by decide⟩ hI hS
theorem dX1_washing_0g : (decode cX1_washing 0 = .ok (.aload_n 0, 1)) ∧ (decode cX1_washing 1 = .ok (.getfield 34, 3)) ∧ (decode cX1_washing 4 = .ok (.ifCond .eq 12, 3)) ∧ (decode cX1_washing 7 = .ok (.aload_n 0, 1)) ∧ (decode cX1_washing 8 = .ok (.invokevirtual 90, 3)) ∧ (decode cX1_washing 11 = .ok (.aload_n 0, 1)) ∧ (decode cX1_washing 12 = .ok (.iconst 0, 1)) ∧ (decode cX1_washing 13 = .ok (.putfield 34, 3)) ∧ (decode cX1_washing 16 = .ok (.iload_n 1, 1)) ∧ (decode cX1_washing 17 = .ok (.ifCond .ne 8, 3)) := by decide +kernel
theorem dX1_washing_0 : decode cX1_washing 0 = .ok (.aload_n 0, 1) := dX1_washing_0g.1
theorem dX1_washing_1 : decode cX1_washing 1 = .ok (.getfield 34, 3) := dX1_washing_0g.2.1
theorem dX1_washing_4 : decode cX1_washing 4 = .ok (.ifCond .eq 12, 3) := dX1_washing_0g.2.2.1
theorem dX1_washing_7 : decode cX1_washing 7 = .ok (.aload_n 0, 1) := dX1_washing_0g.2.2.2.1
theorem dX1_washing_8 : decode cX1_washing 8 = .ok (.invokevirtual 90, 3) := dX1_washing_0g.2.2.2.2.1
theorem dX1_washing_11 : decode cX1_washing 11 = .ok (.aload_n 0, 1) := dX1_washing_0g.2.2.2.2.2.1
theorem dX1_washing_12 : decode cX1_washing 12 = .ok (.iconst 0, 1) := dX1_washing_0g.2.2.2.2.2.2.1
theorem dX1_washing_13 : decode cX1_washing 13 = .ok (.putfield 34, 3) := dX1_washing_0g.2.2.2.2.2.2.2.1
theorem dX1_washing_16 : decode cX1_washing 16 = .ok (.iload_n 1, 1) := dX1_washing_0g.2.2.2.2.2.2.2.2.1
theorem dX1_washing_17 : decode cX1_washing 17 = .ok (.ifCond .ne 8, 3) := dX1_washing_0g.2.2.2.2.2.2.2.2.2
theorem dX1_washing_20g : (decode cX1_washing 20 = .ok (.aload_n 0, 1)) ∧ (decode cX1_washing 21 = .ok (.getfield 27, 3)) ∧ (decode cX1_washing 24 = .ok (.ireturn, 1)) ∧ (decode cX1_washing 25 = .ok (.iload_n 1, 1)) ∧ (decode cX1_washing 26 = .ok (.iconst 1, 1)) ∧ (decode cX1_washing 27 = .ok (.if_icmp .ne 8, 3)) ∧ (decode cX1_washing 30 = .ok (.aload_n 0, 1)) ∧ (decode cX1_washing 31 = .ok (.getfield 31, 3)) ∧ (decode cX1_washing 34 = .ok (.ireturn, 1)) ∧ (decode cX1_washing 35 = .ok (.iload_n 1, 1)) := by decide +kernel
theorem dX1_washing_20 : decode cX1_washing 20 = .ok (.aload_n 0, 1) := dX1_washing_20g.1
theorem dX1_washing_21 : decode cX1_washing 21 = .ok (.getfield 27, 3) := dX1_washing_20g.2.1
theorem dX1_washing_24 : decode cX1_washing 24 = .ok (.ireturn, 1) := dX1_washing_20g.2.2.1
theorem dX1_washing_25 : decode cX1_washing 25 = .ok (.iload_n 1, 1) := dX1_washing_20g.2.2.2.1
theorem dX1_washing_26 : decode cX1_washing 26 = .ok (.iconst 1, 1) := dX1_washing_20g.2.2.2.2.1
theorem dX1_washing_27 : decode cX1_washing 27 = .ok (.if_icmp .ne 8, 3) := dX1_washing_20g.2.2.2.2.2.1
theorem dX1_washing_30 : decode cX1_washing 30 = .ok (.aload_n 0, 1) := dX1_washing_20g.2.2.2.2.2.2.1
theorem dX1_washing_31 : decode cX1_washing 31 = .ok (.getfield 31, 3) := dX1_washing_20g.2.2.2.2.2.2.2.1
theorem dX1_washing_34 : decode cX1_washing 34 = .ok (.ireturn, 1) := dX1_washing_20g.2.2.2.2.2.2.2.2.1
theorem dX1_washing_35 : decode cX1_washing 35 = .ok (.iload_n 1, 1) := dX1_washing_20g.2.2.2.2.2.2.2.2.2
theorem dX1_washing_36g : (decode cX1_washing 36 = .ok (.bipush 8, 2)) ∧ (decode cX1_washing 38 = .ok (.if_icmp .ge 9, 3)) ∧ (decode cX1_washing 41 = .ok (.iload_n 1, 1)) ∧ (decode cX1_washing 42 = .ok (.iconst 2, 1)) ∧ (decode cX1_washing 43 = .ok (.isub, 1)) ∧ (decode cX1_washing 44 = .ok (.goto 7, 3)) ∧ (decode cX1_washing 47 = .ok (.iload_n 1, 1)) ∧ (decode cX1_washing 48 = .ok (.bipush 8, 2)) ∧ (decode cX1_washing 50 = .ok (.isub, 1)) ∧ (decode cX1_washing 51 = .ok (.istore_n 2, 1)) := by decide +kernel
theorem dX1_washing_36 : decode cX1_washing 36 = .ok (.bipush 8, 2) := dX1_washing_36g.1
theorem dX1_washing_38 : decode cX1_washing 38 = .ok (.if_icmp .ge 9, 3) := dX1_washing_36g.2.1
theorem dX1_washing_41 : decode cX1_washing 41 = .ok (.iload_n 1, 1) := dX1_washing_36g.2.2.1
theorem dX1_washing_42 : decode cX1_washing 42 = .ok (.iconst 2, 1) := dX1_washing_36g.2.2.2.1
theorem dX1_washing_43 : decode cX1_washing 43 = .ok (.isub, 1) := dX1_washing_36g.2.2.2.2.1
theorem dX1_washing_44 : decode cX1_washing 44 = .ok (.goto 7, 3) := dX1_washing_36g.2.2.2.2.2.1
theorem dX1_washing_47 : decode cX1_washing 47 = .ok (.iload_n 1, 1) := dX1_washing_36g.2.2.2.2.2.2.1
theorem dX1_washing_48 : decode cX1_washing 48 = .ok (.bipush 8, 2) := dX1_washing_36g.2.2.2.2.2.2.2.1
theorem dX1_washing_50 : decode cX1_washing 50 = .ok (.isub, 1) := dX1_washing_36g.2.2.2.2.2.2.2.2.1
theorem dX1_washing_51 : decode cX1_washing 51 = .ok (.istore_n 2, 1) := dX1_washing_36g.2.2.2.2.2.2.2.2.2
theorem dX1_washing_52g : (decode cX1_washing 52 = .ok (.aload_n 0, 1)) ∧ (decode cX1_washing 53 = .ok (.getfield 27, 3)) ∧ (decode cX1_washing 56 = .ok (.iconst (-1), 1)) ∧ (decode cX1_washing 57 = .ok (.if_icmp .eq 27, 3)) ∧ (decode cX1_washing 60 = .ok (.iload_n 2, 1)) ∧ (decode cX1_washing 61 = .ok (.ifCond .lt 23, 3)) ∧ (decode cX1_washing 64 = .ok (.iload_n 2, 1)) ∧ (decode cX1_washing 65 = .ok (.aload_n 0, 1)) ∧ (decode cX1_washing 66 = .ok (.getfield 38, 3)) ∧ (decode cX1_washing 69 = .ok (.getfield 93, 3)) := by decide +kernel
theorem dX1_washing_52 : decode cX1_washing 52 = .ok (.aload_n 0, 1) := dX1_washing_52g.1
theorem dX1_washing_53 : decode cX1_washing 53 = .ok (.getfield 27, 3) := dX1_washing_52g.2.1
theorem dX1_washing_56 : decode cX1_washing 56 = .ok (.iconst (-1), 1) := dX1_washing_52g.2.2.1
theorem dX1_washing_57 : decode cX1_washing 57 = .ok (.if_icmp .eq 27, 3) := dX1_washing_52g.2.2.2.1
theorem dX1_washing_60 : decode cX1_washing 60 = .ok (.iload_n 2, 1) := dX1_washing_52g.2.2.2.2.1
theorem dX1_washing_61 : decode cX1_washing 61 = .ok (.ifCond .lt 23, 3) := dX1_washing_52g.2.2.2.2.2.1
theorem dX1_washing_64 : decode cX1_washing 64 = .ok (.iload_n 2, 1) := dX1_washing_52g.2.2.2.2.2.2.1
theorem dX1_washing_65 : decode cX1_washing 65 = .ok (.aload_n 0, 1) := dX1_washing_52g.2.2.2.2.2.2.2.1
theorem dX1_washing_66 : decode cX1_washing 66 = .ok (.getfield 38, 3) := dX1_washing_52g.2.2.2.2.2.2.2.2.1
theorem dX1_washing_69 : decode cX1_washing 69 = .ok (.getfield 93, 3) := dX1_washing_52g.2.2.2.2.2.2.2.2.2
theorem dX1_washing_72g : (decode cX1_washing 72 = .ok (.invokevirtual 56, 3)) ∧ (decode cX1_washing 75 = .ok (.if_icmp .ge 9, 3)) ∧ (decode cX1_washing 78 = .ok (.iload_n 2, 1)) ∧ (decode cX1_washing 79 = .ok (.bipush 6, 2)) ∧ (decode cX1_washing 81 = .ok (.if_icmp .lt 5, 3)) ∧ (decode cX1_washing 84 = .ok (.iconst (-1), 1)) ∧ (decode cX1_washing 85 = .ok (.ireturn, 1)) ∧ (decode cX1_washing 86 = .ok (.iload_n 1, 1)) ∧ (decode cX1_washing 87 = .ok (.bipush 8, 2)) ∧ (decode cX1_washing 89 = .ok (.if_icmp .ge 12, 3)) := by decide +kernel
theorem dX1_washing_72 : decode cX1_washing 72 = .ok (.invokevirtual 56, 3) := dX1_washing_72g.1
theorem dX1_washing_75 : decode cX1_washing 75 = .ok (.if_icmp .ge 9, 3) := dX1_washing_72g.2.1
theorem dX1_washing_78 : decode cX1_washing 78 = .ok (.iload_n 2, 1) := dX1_washing_72g.2.2.1
theorem dX1_washing_79 : decode cX1_washing 79 = .ok (.bipush 6, 2) := dX1_washing_72g.2.2.2.1
theorem dX1_washing_81 : decode cX1_washing 81 = .ok (.if_icmp .lt 5, 3) := dX1_washing_72g.2.2.2.2.1
theorem dX1_washing_84 : decode cX1_washing 84 = .ok (.iconst (-1), 1) := dX1_washing_72g.2.2.2.2.2.1
theorem dX1_washing_85 : decode cX1_washing 85 = .ok (.ireturn, 1) := dX1_washing_72g.2.2.2.2.2.2.1
theorem dX1_washing_86 : decode cX1_washing 86 = .ok (.iload_n 1, 1) := dX1_washing_72g.2.2.2.2.2.2.2.1
theorem dX1_washing_87 : decode cX1_washing 87 = .ok (.bipush 8, 2) := dX1_washing_72g.2.2.2.2.2.2.2.2.1
theorem dX1_washing_89 : decode cX1_washing 89 = .ok (.if_icmp .ge 12, 3) := dX1_washing_72g.2.2.2.2.2.2.2.2.2
theorem dX1_washing_92g : (decode cX1_washing 92 = .ok (.aload_n 0, 1)) ∧ (decode cX1_washing 93 = .ok (.getfield 24, 3)) ∧ (decode cX1_washing 96 = .ok (.iload_n 2, 1)) ∧ (decode cX1_washing 97 = .ok (.iaload, 1)) ∧ (decode cX1_washing 98 = .ok (.goto 12, 3)) ∧ (decode cX1_washing 101 = .ok (.aload_n 0, 1)) ∧ (decode cX1_washing 102 = .ok (.getfield 24, 3)) ∧ (decode cX1_washing 105 = .ok (.bipush 6, 2)) ∧ (decode cX1_washing 107 = .ok (.iload_n 2, 1)) ∧ (decode cX1_washing 108 = .ok (.iadd, 1)) := by decide +kernel
theorem dX1_washing_92 : decode cX1_washing 92 = .ok (.aload_n 0, 1) := dX1_washing_92g.1
theorem dX1_washing_93 : decode cX1_washing 93 = .ok (.getfield 24, 3) := dX1_washing_92g.2.1
theorem dX1_washing_96 : decode cX1_washing 96 = .ok (.iload_n 2, 1) := dX1_washing_92g.2.2.1
theorem dX1_washing_97 : decode cX1_washing 97 = .ok (.iaload, 1) := dX1_washing_92g.2.2.2.1
theorem dX1_washing_98 : decode cX1_washing 98 = .ok (.goto 12, 3) := dX1_washing_92g.2.2.2.2.1
theorem dX1_washing_101 : decode cX1_washing 101 = .ok (.aload_n 0, 1) := dX1_washing_92g.2.2.2.2.2.1
theorem dX1_washing_102 : decode cX1_washing 102 = .ok (.getfield 24, 3) := dX1_washing_92g.2.2.2.2.2.2.1
theorem dX1_washing_105 : decode cX1_washing 105 = .ok (.bipush 6, 2) := dX1_washing_92g.2.2.2.2.2.2.2.1
theorem dX1_washing_107 : decode cX1_washing 107 = .ok (.iload_n 2, 1) := dX1_washing_92g.2.2.2.2.2.2.2.2.1
theorem dX1_washing_108 : decode cX1_washing 108 = .ok (.iadd, 1) := dX1_washing_92g.2.2.2.2.2.2.2.2.2
theorem dX1_washing_109g : (decode cX1_washing 109 = .ok (.iaload, 1)) ∧ (decode cX1_washing 110 = .ok (.ireturn, 1)) := by decide +kernel
theorem dX1_washing_109 : decode cX1_washing 109 = .ok (.iaload, 1) := dX1_washing_109g.1
theorem dX1_washing_110 : decode cX1_washing 110 = .ok (.ireturn, 1) := dX1_washing_109g.2
set_option maxHeartbeats 4000000 in
set_option maxRecDepth 100000 in
theorem c_X1_washing (l : Launch) (E : Nat → Nat) (D : va_G) (G : th_G) (h0 : Nat) (hG0 : G h0 = some (11, 0)) (x1 : Int32) : Met l yX1_washing (tb (.code yX1_washing cX1_washing 3 (some .int))) (rm 10) (va_Pc [.ref h0, .int x1] (th_P E D G)) (QI E D G (fun r => True)) 0 0 (th_A G) := by
  refine Met.ofW (cc := cX1_washing) (maxL := 3) (ret := (some .int)) (by decide) rfl ?_
  intro p e s m args below meth c s₁ B hml hv
  obtain ⟨hav, hI, hN, hK⟩ := hv
  have hx := B.exec
  have hb := B.bytes
  have hr := B.returns
  have hts := atoms_spec (ws := tb (.code yX1_washing cX1_washing 3 (some .int))) B.pre
  have hown : s.vm.findClass RX1 = some m.cls := findClass_of_methodNamed B.named
  have hlocks := B.notSynchronized
  have hS : va_S (th_A G) s.heap s.heap [] := va_S.rf
  have hl := lv_entry ([.ref h0, .int x1]) (n := 3) (Nat.le_of_ble_eq_true rfl)
  rw [show entryFrame m args 3 = entryFrame m ([.ref h0, .int x1] : List Value).toArray 3 from by rw [hav], lg_entry_eq]
  generalize (lg_sl ([.ref h0, .int x1]) ++ List.replicate (3 - (lg_sl ([.ref h0, .int x1])).length) Slot.unset).toArray = ls at hl ⊢
  have hl : lv_has ls 3 [(0, .ref h0), (1, .int x1)] := hl
  generalize hR : (headSpec (tb (.code yX1_washing cX1_washing 3 (some .int))) (rm 10)).room = R
  have hR := hR.symm
  generalize hQ : MQ below (QI E D G (fun r => True)) args s 0 0 (th_A G) = QF
  have hQ := hQ.symm
  have J_84 : ∀ (H : Heap) (locs : List Loc) (ls : Array Slot) (v1893 : Int32), lv_has ls 3 [(2, .int v1893), (0, .ref h0), (1, .int x1)] → th_I (okC E) D G [] H → va_S (th_A G) s.heap H locs → W p l e R s m args below meth c H locs 0 0 QF (F0 m 84 ls []) := by
    intro H locs ls v1893 hl  hI hS
    refine lv_iconst (v := (-1)) hx hb dX1_washing_84 (by decide) ?_
    have hpost : True := trivial
    rw [hQ]
    exact W.iret (v := (-1)) hx hb hr (fun t ht hW => ⟨⟨(-1), (), rfl, hpost, by rw [ht]; exact hI, hN.warm hW, va_K.moved hW.alike hK⟩, hS.F ht⟩) hS.2.2 dX1_washing_85
  have J_51 : ∀ (H : Heap) (locs : List Loc) (ls : Array Slot) (v1894 : Int32), lv_has ls 3 [(0, .ref h0), (1, .int x1)] → th_I (okC E) D G [] H → va_S (th_A G) s.heap H locs → W p l e R s m args below meth c H locs 0 0 QF (F0 m 51 ls [.int v1894]) := by
    intro H locs ls v1894 hl  hI hS
    refine lv_istore_n (lv' := [(2, .int v1894), (0, .ref h0), (1, .int x1)]) hx hb dX1_washing_51 rfl hl (by decide) rfl (fun ls hl => ?_)
    refine lv_aload_n hx hb dX1_washing_52 rfl (lv_at hl 1 rfl) ?_
    obtain ⟨a1895, a1897, a1899, a1901, a1903, a1905, a1907, a1909, w1911, w1912, w1913, hO, hq1896, hq1898, hq1900, hq1902, hq1904, hq1906, hq1908, hq1910⟩ := op_11 hI hG0 List.not_mem_nil
    have hI := th_I.weak (a := h0) hI
    refine th_get hx hb hts inT1 hown hK hO rfl 8 (by decide) (hts _ (tb_c wd_244)) rfl rfl dX1_washing_53 ?_
    refine lv_iconst (v := (-1)) hx hb dX1_washing_56 (by decide) ?_
    have k1914 := iv_lo w1911
    have k1915 := iv_hi w1911
    refine lv_icmp_eq (tgt := 84) hx hb dX1_washing_57 (by decide) (fun c1916 => ?_) (fun c1916 => ?_)
    · skip
      have k1917 := iv_eq (X := w1911.toInt) (Y := (-1)) rfl (by decide) c1916
      have hI := th_I.close hI hG0 hO (ok_11 hq1896 hq1898 hq1900 hq1902 hq1904 hq1906 hq1908 hq1910)
      exact J_84 H locs ls v1894 (lv_sub hl [0, 1, 2] rfl)  hI hS
    · skip
      have k1918 := iv_ne (X := w1911.toInt) (Y := (-1)) rfl (by decide) c1916
      refine lv_iload_n hx hb dX1_washing_60 rfl (lv_at hl 0 rfl) ?_
      have k1919 := iv_lo v1894
      have k1920 := iv_hi v1894
      refine lv_if_lt (tgt := 84) hx hb dX1_washing_61 (by decide) (fun c1921 => ?_) (fun c1921 => ?_)
      · skip
        have k1922 := iv_lt (X := v1894.toInt) (Y := (0)) rfl (by decide) c1921
        have hI := th_I.close hI hG0 hO (ok_11 hq1896 hq1898 hq1900 hq1902 hq1904 hq1906 hq1908 hq1910)
        exact J_84 H locs ls v1894 (lv_sub hl [0, 1, 2] rfl)  hI hS
      · skip
        have k1923 := iv_nlt (X := v1894.toInt) (Y := (0)) rfl (by decide) c1921
        refine lv_iload_n hx hb dX1_washing_64 rfl (lv_at hl 0 rfl) ?_
        refine lv_aload_n hx hb dX1_washing_65 rfl (lv_at hl 1 rfl) ?_
        refine th_get hx hb hts inT1 hown hK hO rfl 0 (by decide) (hts _ (tb_c wd_236)) rfl rfl dX1_washing_66 ?_
        have hI := th_I.close hI hG0 hO (ok_11 hq1896 hq1898 hq1900 hq1902 hq1904 hq1906 hq1908 hq1910)
        obtain ⟨a1924, a1926, a1928, a1930, a1932, a1934, a1936, a1938, a1940, a1942, w1944, w1947, w1948, w1949, hO, hq1925, hq1927, hq1929, hq1931, hq1933, hq1935, hq1937, hq1939, hq1941, hq1943, ⟨k1945, k1946⟩, k1950⟩ := op_6 hI hq1896 List.not_mem_nil
        have hI := th_I.weak (a := a1895) hI
        refine th_getN hx hb hts inT6 hown hK hN hO rfl 7 (by decide) wn_76 rfl rfl dX1_washing_69 ?_
        have hI := th_I.close hI hq1896 hO (ok_6 hq1925 hq1927 hq1929 hq1931 hq1933 hq1935 hq1937 hq1939 hq1941 hq1943 ⟨by omega, by omega⟩ k1950)
        obtain ⟨a1952, w1954, hO, hq1953, ⟨k1955, k1956⟩, k1957⟩ := op_4 hI hq1939 List.not_mem_nil
        have hI := th_I.weak (a := a1938) hI
        have k1958 : (nI (6 % 32)).toInt = ((6 % 32 : Nat) : Int) := nI_toInt (by omega)
        have k1959 := k1957.1
        refine th_cVs (As := []) (rest := [.int v1894]) (n := 0) (d := 0) ⟨hx, hb, hml, hown, hts⟩ (c_X4_size l E D H a1938 (6 % 32) a1952 w1954 hO (by omega) (by omega) (by omega)) wd_920 wd_507 wd_508 wd_3 wd_509 (by decide +kernel) ⟨by rw [hR]; exact Nat.le_of_ble_eq_true rfl, by rw [hR]; exact Nat.le_of_ble_eq_true rfl⟩ hN hK hS ⟨_, hO⟩ rfl rfl hl.1 rfl (Nat.le_of_ble_eq_true rfl) dX1_washing_72 ⟨Nat.zero_le _, Nat.zero_le _⟩ (fun r1951 locs hp hS => ?_)
        have hp := hp.symm
        subst hp
        refine lv_icmp_ge (tgt := 84) hx hb dX1_washing_75 (by decide) (fun c1960 => ?_) (fun c1960 => ?_)
        · skip
          have k1961 := iv_le (X := w1954.toInt) (Y := v1894.toInt) rfl rfl c1960
          have hI := th_I.close hI hq1939 hO (ok_4 hq1953 ⟨by omega, by omega⟩ k1957)
          exact J_84 H locs ls v1894 (lv_sub hl [0, 1, 2] rfl)  hI hS
        · skip
          have k1962 := iv_nle (X := w1954.toInt) (Y := v1894.toInt) rfl rfl c1960
          refine lv_iload_n hx hb dX1_washing_78 rfl (lv_at hl 0 rfl) ?_
          refine lv_bipush (v := 6) hx hb dX1_washing_79 (by decide) ?_
          refine lv_icmp_lt (tgt := 86) hx hb dX1_washing_81 (by decide) (fun c1963 => ?_) (fun c1963 => ?_)
          · skip
            have k1964 := iv_lt (X := v1894.toInt) (Y := (6)) rfl (by decide) c1963
            refine lv_iload_n hx hb dX1_washing_86 rfl (lv_at hl 2 rfl) ?_
            refine lv_bipush (v := 8) hx hb dX1_washing_87 (by decide) ?_
            have k1965 := iv_lo x1
            have k1966 := iv_hi x1
            refine lv_icmp_ge (tgt := 101) hx hb dX1_washing_89 (by decide) (fun c1967 => ?_) (fun c1967 => ?_)
            · skip
              have k1968 := iv_le (X := (8)) (Y := x1.toInt) (by decide) rfl c1967
              refine lv_aload_n hx hb dX1_washing_101 rfl (lv_at hl 1 rfl) ?_
              have hI := th_I.close hI hq1939 hO (ok_4 hq1953 ⟨by omega, by omega⟩ k1957)
              obtain ⟨a1969, a1971, a1973, a1975, a1977, a1979, a1981, a1983, w1985, w1986, w1987, hO, hq1970, hq1972, hq1974, hq1976, hq1978, hq1980, hq1982, hq1984⟩ := op_11 hI hG0 List.not_mem_nil
              have hI := th_I.weak (a := h0) hI
              refine th_get hx hb hts inT1 hown hK hO rfl 7 (by decide) (hts _ (tb_c wd_243)) rfl rfl dX1_washing_102 ?_
              refine lv_bipush (v := 6) hx hb dX1_washing_105 (by decide) ?_
              refine lv_iload_n hx hb dX1_washing_107 rfl (lv_at hl 0 rfl) ?_
              refine lv_iadd hx hb dX1_washing_108 ?_
              refine lv_topi (fun v1988 e1989 => ?_)
              have tv1988 : v1988.toInt = (6) + v1894.toInt := iv_add (by decide) rfl e1989 (by omega) (by omega)
              obtain ⟨_, hA1990⟩ := op_0 hI hq1984 (th_ne hG0 hq1984 (show (11 : Nat) ≠ 0 by decide))
              refine th_iald hx hb hK hA1990 0 rfl (iv_in (X := v1988.toInt) rfl (by omega) (by omega)) dX1_washing_109 (fun v1991 _ => ?_)
              have hI := th_I.close hI hG0 hO (ok_11 hq1970 hq1972 hq1974 hq1976 hq1978 hq1980 hq1982 hq1984)
              have hpost : True := trivial
              rw [hQ]
              exact W.iret (v := v1991) hx hb hr (fun t ht hW => ⟨⟨v1991, (), rfl, hpost, by rw [ht]; exact hI, hN.warm hW, va_K.moved hW.alike hK⟩, hS.F ht⟩) hS.2.2 dX1_washing_110
            · skip
              have k1992 := iv_nle (X := (8)) (Y := x1.toInt) (by decide) rfl c1967
              refine lv_aload_n hx hb dX1_washing_92 rfl (lv_at hl 1 rfl) ?_
              have hI := th_I.close hI hq1939 hO (ok_4 hq1953 ⟨by omega, by omega⟩ k1957)
              obtain ⟨a1993, a1995, a1997, a1999, a2001, a2003, a2005, a2007, w2009, w2010, w2011, hO, hq1994, hq1996, hq1998, hq2000, hq2002, hq2004, hq2006, hq2008⟩ := op_11 hI hG0 List.not_mem_nil
              have hI := th_I.weak (a := h0) hI
              refine th_get hx hb hts inT1 hown hK hO rfl 7 (by decide) (hts _ (tb_c wd_243)) rfl rfl dX1_washing_93 ?_
              refine lv_iload_n hx hb dX1_washing_96 rfl (lv_at hl 0 rfl) ?_
              obtain ⟨_, hA2012⟩ := op_0 hI hq2008 (th_ne hG0 hq2008 (show (11 : Nat) ≠ 0 by decide))
              refine th_iald hx hb hK hA2012 0 rfl (iv_in (X := v1894.toInt) rfl (by omega) (by omega)) dX1_washing_97 (fun v2013 _ => ?_)
              refine lv_goto (tgt := 110) hx hb dX1_washing_98 (by decide) ?_
              have hI := th_I.close hI hG0 hO (ok_11 hq1994 hq1996 hq1998 hq2000 hq2002 hq2004 hq2006 hq2008)
              have hpost : True := trivial
              rw [hQ]
              exact W.iret (v := v2013) hx hb hr (fun t ht hW => ⟨⟨v2013, (), rfl, hpost, by rw [ht]; exact hI, hN.warm hW, va_K.moved hW.alike hK⟩, hS.F ht⟩) hS.2.2 dX1_washing_110
          · skip
            have k2014 := iv_nlt (X := v1894.toInt) (Y := (6)) rfl (by decide) c1963
            exfalso; omega
  have J_16 : ∀ (H : Heap) (locs : List Loc) (ls : Array Slot) , lv_has ls 3 [(0, .ref h0), (1, .int x1)] → th_I (okC E) D G [] H → va_S (th_A G) s.heap H locs → W p l e R s m args below meth c H locs 0 0 QF (F0 m 16 ls []) := by
    intro H locs ls  hl  hI hS
    refine lv_iload_n hx hb dX1_washing_16 rfl (lv_at hl 1 rfl) ?_
    have k2015 := iv_lo x1
    have k2016 := iv_hi x1
    refine lv_if_ne (tgt := 25) hx hb dX1_washing_17 (by decide) (fun c2017 => ?_) (fun c2017 => ?_)
    · skip
      have k2018 := iv_ne (X := x1.toInt) (Y := (0)) rfl (by decide) c2017
      refine lv_iload_n hx hb dX1_washing_25 rfl (lv_at hl 1 rfl) ?_
      refine lv_iconst (v := 1) hx hb dX1_washing_26 (by decide) ?_
      refine lv_icmp_ne (tgt := 35) hx hb dX1_washing_27 (by decide) (fun c2019 => ?_) (fun c2019 => ?_)
      · skip
        have k2020 := iv_ne (X := x1.toInt) (Y := (1)) rfl (by decide) c2019
        refine lv_iload_n hx hb dX1_washing_35 rfl (lv_at hl 1 rfl) ?_
        refine lv_bipush (v := 8) hx hb dX1_washing_36 (by decide) ?_
        refine lv_icmp_ge (tgt := 47) hx hb dX1_washing_38 (by decide) (fun c2021 => ?_) (fun c2021 => ?_)
        · skip
          have k2022 := iv_le (X := (8)) (Y := x1.toInt) (by decide) rfl c2021
          refine lv_iload_n hx hb dX1_washing_47 rfl (lv_at hl 1 rfl) ?_
          refine lv_bipush (v := 8) hx hb dX1_washing_48 (by decide) ?_
          refine lv_isub hx hb dX1_washing_50 ?_
          refine lv_topi (fun v2023 e2024 => ?_)
          have tv2023 : v2023.toInt = x1.toInt - (8) := iv_sub rfl (by decide) e2024 (by omega) (by omega)
          exact J_51 H locs ls v2023 (lv_sub hl [0, 1] rfl)  hI hS
        · skip
          have k2025 := iv_nle (X := (8)) (Y := x1.toInt) (by decide) rfl c2021
          refine lv_iload_n hx hb dX1_washing_41 rfl (lv_at hl 1 rfl) ?_
          refine lv_iconst (v := 2) hx hb dX1_washing_42 (by decide) ?_
          refine lv_isub hx hb dX1_washing_43 ?_
          refine lv_topi (fun v2026 e2027 => ?_)
          try have tv2026 : v2026.toInt = x1.toInt - (2) := iv_sub rfl (by decide) e2027 (by omega) (by omega)
          refine lv_goto (tgt := 51) hx hb dX1_washing_44 (by decide) ?_
          exact J_51 H locs ls v2026 (lv_sub hl [0, 1] rfl)  hI hS
      · skip
        have k2028 := iv_eq (X := x1.toInt) (Y := (1)) rfl (by decide) c2019
        refine lv_aload_n hx hb dX1_washing_30 rfl (lv_at hl 0 rfl) ?_
        obtain ⟨a2029, a2031, a2033, a2035, a2037, a2039, a2041, a2043, w2045, w2046, w2047, hO, hq2030, hq2032, hq2034, hq2036, hq2038, hq2040, hq2042, hq2044⟩ := op_11 hI hG0 List.not_mem_nil
        have hI := th_I.weak (a := h0) hI
        refine th_get hx hb hts inT1 hown hK hO rfl 9 (by decide) (hts _ (tb_c wd_245)) rfl rfl dX1_washing_31 ?_
        have hI := th_I.close hI hG0 hO (ok_11 hq2030 hq2032 hq2034 hq2036 hq2038 hq2040 hq2042 hq2044)
        have hpost : True := trivial
        rw [hQ]
        exact W.iret (v := w2046) hx hb hr (fun t ht hW => ⟨⟨w2046, (), rfl, hpost, by rw [ht]; exact hI, hN.warm hW, va_K.moved hW.alike hK⟩, hS.F ht⟩) hS.2.2 dX1_washing_34
    · skip
      have k2048 := iv_eq (X := x1.toInt) (Y := (0)) rfl (by decide) c2017
      refine lv_aload_n hx hb dX1_washing_20 rfl (lv_at hl 0 rfl) ?_
      obtain ⟨a2049, a2051, a2053, a2055, a2057, a2059, a2061, a2063, w2065, w2066, w2067, hO, hq2050, hq2052, hq2054, hq2056, hq2058, hq2060, hq2062, hq2064⟩ := op_11 hI hG0 List.not_mem_nil
      have hI := th_I.weak (a := h0) hI
      refine th_get hx hb hts inT1 hown hK hO rfl 8 (by decide) (hts _ (tb_c wd_244)) rfl rfl dX1_washing_21 ?_
      have hI := th_I.close hI hG0 hO (ok_11 hq2050 hq2052 hq2054 hq2056 hq2058 hq2060 hq2062 hq2064)
      have hpost : True := trivial
      rw [hQ]
      exact W.iret (v := w2065) hx hb hr (fun t ht hW => ⟨⟨w2065, (), rfl, hpost, by rw [ht]; exact hI, hN.warm hW, va_K.moved hW.alike hK⟩, hS.F ht⟩) hS.2.2 dX1_washing_24
  refine lv_aload_n hx hb dX1_washing_0 rfl (lv_at hl 0 rfl) ?_
  obtain ⟨a2068, a2070, a2072, a2074, a2076, a2078, a2080, a2082, w2084, w2085, w2086, hO, hq2069, hq2071, hq2073, hq2075, hq2077, hq2079, hq2081, hq2083⟩ := op_11 hI hG0 List.not_mem_nil
  have hI := th_I.weak (a := h0) hI
  refine th_get hx hb hts inT1 hown hK hO rfl 10 (by decide) (hts _ (tb_c wd_246)) rfl rfl dX1_washing_1 ?_
  have k2087 := iv_lo w2086
  have k2088 := iv_hi w2086
  refine lv_if_eq (tgt := 16) hx hb dX1_washing_4 (by decide) (fun c2089 => ?_) (fun c2089 => ?_)
  · skip
    have k2090 := iv_eq (X := w2086.toInt) (Y := (0)) rfl (by decide) c2089
    have hI := th_I.close hI hG0 hO (ok_11 hq2069 hq2071 hq2073 hq2075 hq2077 hq2079 hq2081 hq2083)
    exact J_16 s.heap [] ls  (lv_sub hl [0, 1] rfl)  hI hS
  · skip
    have k2091 := iv_ne (X := w2086.toInt) (Y := (0)) rfl (by decide) c2089
    refine lv_aload_n hx hb dX1_washing_7 rfl (lv_at hl 0 rfl) ?_
    have hI := th_I.close hI hG0 hO (ok_11 hq2069 hq2071 hq2073 hq2075 hq2077 hq2079 hq2081 hq2083)
    refine th_cVv (As := []) (rest := []) (n := 0) (d := 9) ⟨hx, hb, hml, hown, hts⟩ (c_X1_wash l E D G h0 hG0 ) wd_1058 wd_1060 wp_31 wd_9 wd_1061 (by decide +kernel) ⟨by rw [hR]; exact Nat.le_of_ble_eq_true rfl, by rw [hR]; exact Nat.le_of_ble_eq_true rfl⟩ hI hN hK hS (rc_11 hI hG0 List.not_mem_nil) rfl rfl hl.1 rfl (Nat.le_of_ble_eq_true rfl) dX1_washing_8 ⟨Nat.zero_le _, Nat.zero_le _⟩ (fun H locs hI hS => ?_)
    refine lv_aload_n hx hb dX1_washing_11 rfl (lv_at hl 0 rfl) ?_
    refine lv_iconst (v := 0) hx hb dX1_washing_12 (by decide) ?_
    obtain ⟨a2093, a2095, a2097, a2099, a2101, a2103, a2105, a2107, w2109, w2110, w2111, hO, hq2094, hq2096, hq2098, hq2100, hq2102, hq2104, hq2106, hq2108⟩ := op_11 hI hG0 List.not_mem_nil
    have hI := th_I.weak (a := h0) hI
    refine th_put (ty := .boolean) hx hb hts inT1 tyX1 tyX1_ok nmX1 hown hK hO hS ⟨_, hG0⟩ rfl 10 (by decide) (hts _ (tb_c wd_246)) rfl rfl (by decide +kernel) (by decide) rfl (Nat.le_of_ble_eq_true rfl) dX1_washing_13 (fun H locs hO oq hS => ?_)
    have hI := th_I.moved hI oq
    have hO : va_at D vwCl (h0, .inr (1, [.ref a2093, .ref a2095, .ref a2097, .ref a2099, .ref a2101, .ref a2103, .ref a2105, .ref a2107, .int w2109, .int w2110, .int 0])) H := hO
    have hI := th_I.close hI hG0 hO (ok_11 hq2094 hq2096 hq2098 hq2100 hq2102 hq2104 hq2106 hq2108)
    exact J_16 H locs ls  (lv_sub hl [0, 1] rfl)  hI hS
theorem dX11_laundry_0g : (decode cX11_laundry 0 = .ok (.iload_n 1, 1)) ∧ (decode cX11_laundry 1 = .ok (.ifCond .lt 9, 3)) ∧ (decode cX11_laundry 4 = .ok (.iload_n 1, 1)) ∧ (decode cX11_laundry 5 = .ok (.bipush 13, 2)) ∧ (decode cX11_laundry 7 = .ok (.if_icmp .le 7, 3)) ∧ (decode cX11_laundry 10 = .ok (.iconst (-1), 1)) ∧ (decode cX11_laundry 11 = .ok (.goto 11, 3)) ∧ (decode cX11_laundry 14 = .ok (.aload_n 0, 1)) ∧ (decode cX11_laundry 15 = .ok (.getfield 60, 3)) ∧ (decode cX11_laundry 18 = .ok (.iload_n 1, 1)) := by decide +kernel
theorem dX11_laundry_0 : decode cX11_laundry 0 = .ok (.iload_n 1, 1) := dX11_laundry_0g.1
theorem dX11_laundry_1 : decode cX11_laundry 1 = .ok (.ifCond .lt 9, 3) := dX11_laundry_0g.2.1
theorem dX11_laundry_4 : decode cX11_laundry 4 = .ok (.iload_n 1, 1) := dX11_laundry_0g.2.2.1
theorem dX11_laundry_5 : decode cX11_laundry 5 = .ok (.bipush 13, 2) := dX11_laundry_0g.2.2.2.1
theorem dX11_laundry_7 : decode cX11_laundry 7 = .ok (.if_icmp .le 7, 3) := dX11_laundry_0g.2.2.2.2.1
theorem dX11_laundry_10 : decode cX11_laundry 10 = .ok (.iconst (-1), 1) := dX11_laundry_0g.2.2.2.2.2.1
theorem dX11_laundry_11 : decode cX11_laundry 11 = .ok (.goto 11, 3) := dX11_laundry_0g.2.2.2.2.2.2.1
theorem dX11_laundry_14 : decode cX11_laundry 14 = .ok (.aload_n 0, 1) := dX11_laundry_0g.2.2.2.2.2.2.2.1
theorem dX11_laundry_15 : decode cX11_laundry 15 = .ok (.getfield 60, 3) := dX11_laundry_0g.2.2.2.2.2.2.2.2.1
theorem dX11_laundry_18 : decode cX11_laundry 18 = .ok (.iload_n 1, 1) := dX11_laundry_0g.2.2.2.2.2.2.2.2.2
theorem dX11_laundry_19g : (decode cX11_laundry 19 = .ok (.invokevirtual 310, 3)) ∧ (decode cX11_laundry 22 = .ok (.ireturn, 1)) := by decide +kernel
theorem dX11_laundry_19 : decode cX11_laundry 19 = .ok (.invokevirtual 310, 3) := dX11_laundry_19g.1
theorem dX11_laundry_22 : decode cX11_laundry 22 = .ok (.ireturn, 1) := dX11_laundry_19g.2
set_option maxHeartbeats 4000000 in
set_option maxRecDepth 100000 in
theorem c_X11_laundry (l : Launch) (E : Nat → Nat) (D : va_G) (G : th_G) (h0 n : Nat) (hG0 : G h0 = some (15, n)) (x1 : Int32) : Met l yX11_laundry (tb (.code yX11_laundry cX11_laundry 2 (some .int))) (rm 11) (va_Pc [.ref h0, .int x1] (th_P E D G)) (QI E D G (fun r => True)) 0 0 (th_A G) := by
  refine Met.ofW (cc := cX11_laundry) (maxL := 2) (ret := (some .int)) (by decide) rfl ?_
  intro p e s m args below meth c s₁ B hml hv
  obtain ⟨hav, hI, hN, hK⟩ := hv
  have hx := B.exec
  have hb := B.bytes
  have hr := B.returns
  have hts := atoms_spec (ws := tb (.code yX11_laundry cX11_laundry 2 (some .int))) B.pre
  have hown : s.vm.findClass RX11 = some m.cls := findClass_of_methodNamed B.named
  have hlocks := B.notSynchronized
  have hS : va_S (th_A G) s.heap s.heap [] := va_S.rf
  have hl := lv_entry ([.ref h0, .int x1]) (n := 2) (Nat.le_of_ble_eq_true rfl)
  rw [show entryFrame m args 2 = entryFrame m ([.ref h0, .int x1] : List Value).toArray 2 from by rw [hav], lg_entry_eq]
  generalize (lg_sl ([.ref h0, .int x1]) ++ List.replicate (2 - (lg_sl ([.ref h0, .int x1])).length) Slot.unset).toArray = ls at hl ⊢
  have hl : lv_has ls 2 [(0, .ref h0), (1, .int x1)] := hl
  generalize hR : (headSpec (tb (.code yX11_laundry cX11_laundry 2 (some .int))) (rm 11)).room = R
  have hR := hR.symm
  generalize hQ : MQ below (QI E D G (fun r => True)) args s 0 0 (th_A G) = QF
  have hQ := hQ.symm
  refine lv_iload_n hx hb dX11_laundry_0 rfl (lv_at hl 1 rfl) ?_
  have k1 := iv_lo x1
  have k2 := iv_hi x1
  refine lv_if_lt (tgt := 10) hx hb dX11_laundry_1 (by decide) (fun c3 => ?_) (fun c3 => ?_)
  · skip
    have k4 := iv_lt (X := x1.toInt) (Y := (0)) rfl (by decide) c3
    refine lv_iconst (v := (-1)) hx hb dX11_laundry_10 (by decide) ?_
    refine lv_goto (tgt := 22) hx hb dX11_laundry_11 (by decide) ?_
    have hpost : True := trivial
    rw [hQ]
    exact W.iret (v := (-1)) hx hb hr (fun t ht hW => ⟨⟨(-1), (), rfl, hpost, by rw [ht]; exact hI, hN.warm hW, va_K.moved hW.alike hK⟩, hS.F ht⟩) hS.2.2 dX11_laundry_22
  · skip
    have k5 := iv_nlt (X := x1.toInt) (Y := (0)) rfl (by decide) c3
    refine lv_iload_n hx hb dX11_laundry_4 rfl (lv_at hl 1 rfl) ?_
    refine lv_bipush (v := 13) hx hb dX11_laundry_5 (by decide) ?_
    refine lv_icmp_le (tgt := 14) hx hb dX11_laundry_7 (by decide) (fun c6 => ?_) (fun c6 => ?_)
    · skip
      have k7 := iv_le (X := x1.toInt) (Y := (13)) rfl (by decide) c6
      refine lv_aload_n hx hb dX11_laundry_14 rfl (lv_at hl 0 rfl) ?_
      obtain ⟨a8, a11, a13, a15, a17, a19, a21, a23, a25, a27, a29, w31, w34, w35, w36, w37, hO, hq9, hq10, hq12, hq14, hq16, hq18, hq20, hq22, hq24, hq26, hq28, hq30, ⟨k32, k33⟩, k38⟩ := op_15 hI hG0 List.not_mem_nil
      have hI := th_I.weak (a := h0) hI
      refine th_get hx hb hts inT11 hown hK hO rfl 8 (by decide) (hts _ (tb_c wd_353)) rfl rfl dX11_laundry_15 ?_
      refine lv_iload_n hx hb dX11_laundry_18 rfl (lv_at hl 1 rfl) ?_
      have hI := th_I.close hI hG0 hO (ok_15 hq9 hq10 hq12 hq14 hq16 hq18 hq20 hq22 hq24 hq26 hq28 hq30 ⟨by omega, by omega⟩ k38)
      refine th_cVi (As := [.int x1]) (rest := []) (n := 1) (d := 10) ⟨hx, hb, hml, hown, hts⟩ (c_X1_washing l E D G a23 hq24 x1) wd_1054 wd_1055 wd_1056 wd_9 wd_1057 (by decide +kernel) ⟨by rw [hR]; exact Nat.le_of_ble_eq_true rfl, by rw [hR]; exact Nat.le_of_ble_eq_true rfl⟩ hI hN hK hS (rc_11 hI hq24 List.not_mem_nil) rfl rfl hl.1 rfl (Nat.le_of_ble_eq_true rfl) dX11_laundry_19 ⟨Nat.zero_le _, Nat.zero_le _⟩ (fun r39 H locs hp hI hS => ?_)
      have hpost : True := trivial
      rw [hQ]
      exact W.iret (v := r39) hx hb hr (fun t ht hW => ⟨⟨r39, (), rfl, hpost, by rw [ht]; exact hI, hN.warm hW, va_K.moved hW.alike hK⟩, hS.F ht⟩) hS.2.2 dX11_laundry_22
    · skip
      have k40 := iv_nle (X := x1.toInt) (Y := (13)) rfl (by decide) c6
      refine lv_iconst (v := (-1)) hx hb dX11_laundry_10 (by decide) ?_
      refine lv_goto (tgt := 22) hx hb dX11_laundry_11 (by decide) ?_
      have hpost : True := trivial
      rw [hQ]
      exact W.iret (v := (-1)) hx hb hr (fun t ht hW => ⟨⟨(-1), (), rfl, hpost, by rw [ht]; exact hI, hN.warm hW, va_K.moved hW.alike hK⟩, hS.F ht⟩) hS.2.2 dX11_laundry_22
