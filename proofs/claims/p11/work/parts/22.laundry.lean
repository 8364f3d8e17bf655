theorem wn_1079 : (Cond.methodLinkNest RX1 (115 : Nat) yX11_isMoment "NineRiver") ∈ lw_tbl := List.mem_append_right _ (List.mem_of_getElem? (i := 1079) (by decide +kernel))
theorem wp_31 : Cond.selects RX1 yX1_wash yX1_wash ∈ TB := tv 31 (by decide +kernel) (by decide +kernel)
theorem wp_32 : Cond.selects RX1 yX1_tint yX1_tint ∈ TB := tv 32 (by decide +kernel) (by decide +kernel)
theorem wp_33 : Cond.selects RX1 yX1_findBegins yX1_findBegins ∈ TB := tv 33 (by decide +kernel) (by decide +kernel)
theorem wp_34 : Cond.selects RX1 yX1_place yX1_place ∈ TB := tv 34 (by decide +kernel) (by decide +kernel)
theorem wp_35 : Cond.selects RX1 yX1_finish yX1_finish ∈ TB := tv 35 (by decide +kernel) (by decide +kernel)
theorem wd_1054 : (Cond.methodLink RX11 (310 : Nat) yX1_washing) ∈ TB := tw 1054 (by decide +kernel) (by decide +kernel)
theorem wd_1055 : (Jvm.Cond.instanceMethod yX1_washing) ∈ TB := tw 1055 (by decide +kernel) (by decide +kernel)
theorem wd_1056 : (Cond.selects RX1 yX1_washing yX1_washing) ∈ TB := tw 1056 (by decide +kernel) (by decide +kernel)
theorem wd_1057 : (Cond.code yX1_washing cX1_washing 3 (Option.some Jvm.ClassFile.FieldType.int)) ∈ TB := tw 1057 (by decide +kernel) (by decide +kernel)
theorem wd_1058 : (Cond.methodLink RX1 (90 : Nat) yX1_wash) ∈ TB := tw 1058 (by decide +kernel) (by decide +kernel)
theorem wd_1060 : (Jvm.Cond.instanceMethod yX1_wash) ∈ TB := tw 1060 (by decide +kernel) (by decide +kernel)
theorem wd_1061 : (Cond.code yX1_wash cX1_wash 2 (Option.none : Option Jvm.ClassFile.FieldType)) ∈ TB := tw 1061 (by decide +kernel) (by decide +kernel)
theorem wd_1062 : (Cond.methodLink RX1 (101 : Nat) yX1_tint) ∈ TB := tw 1062 (by decide +kernel) (by decide +kernel)
theorem wd_1064 : (Jvm.Cond.instanceMethod yX1_tint) ∈ TB := tw 1064 (by decide +kernel) (by decide +kernel)
theorem wd_1065 : (Cond.code yX1_tint cX1_tint 4 (Option.none : Option Jvm.ClassFile.FieldType)) ∈ TB := tw 1065 (by decide +kernel) (by decide +kernel)
theorem wd_1066 : (Cond.methodLink RX1 (104 : Nat) yX1_findBegins) ∈ TB := tw 1066 (by decide +kernel) (by decide +kernel)
theorem wd_1068 : (Jvm.Cond.instanceMethod yX1_findBegins) ∈ TB := tw 1068 (by decide +kernel) (by decide +kernel)
theorem wd_1069 : (Cond.code yX1_findBegins cX1_findBegins 8 (Option.none : Option Jvm.ClassFile.FieldType)) ∈ TB := tw 1069 (by decide +kernel) (by decide +kernel)
theorem wd_1070 : (Cond.methodLink RX1 (108 : Nat) yX1_place) ∈ TB := tw 1070 (by decide +kernel) (by decide +kernel)
theorem wd_1072 : (Jvm.Cond.instanceMethod yX1_place) ∈ TB := tw 1072 (by decide +kernel) (by decide +kernel)
theorem wd_1073 : (Cond.code yX1_place cX1_place 7 (Option.none : Option Jvm.ClassFile.FieldType)) ∈ TB := tw 1073 (by decide +kernel) (by decide +kernel)
theorem wd_1074 : (Cond.methodLink RX1 (112 : Nat) yX1_finish) ∈ TB := tw 1074 (by decide +kernel) (by decide +kernel)
theorem wd_1076 : (Jvm.Cond.instanceMethod yX1_finish) ∈ TB := tw 1076 (by decide +kernel) (by decide +kernel)
theorem wd_1077 : (Cond.code yX1_finish cX1_finish 2 (Option.none : Option Jvm.ClassFile.FieldType)) ∈ TB := tw 1077 (by decide +kernel) (by decide +kernel)
theorem dX1_place_0 : decode cX1_place 0 = .ok (.aload_n 0, 1) := by decide +kernel
theorem dX1_place_1 : decode cX1_place 1 = .ok (.getfield 38, 3) := by decide +kernel
theorem dX1_place_4 : decode cX1_place 4 = .ok (.getfield 93, 3) := by decide +kernel
theorem dX1_place_7 : decode cX1_place 7 = .ok (.invokevirtual 56, 3) := by decide +kernel
theorem dX1_place_10 : decode cX1_place 10 = .ok (.istore 4, 2) := by decide +kernel
theorem dX1_place_12 : decode cX1_place 12 = .ok (.iload_n 1, 1) := by decide +kernel
theorem dX1_place_13 : decode cX1_place 13 = .ok (.iload 4, 2) := by decide +kernel
theorem dX1_place_15 : decode cX1_place 15 = .ok (.if_icmp .ge 9, 3) := by decide +kernel
theorem dX1_place_18 : decode cX1_place 18 = .ok (.iload_n 1, 1) := by decide +kernel
theorem dX1_place_19 : decode cX1_place 19 = .ok (.bipush 6, 2) := by decide +kernel
theorem dX1_place_21 : decode cX1_place 21 = .ok (.if_icmp .lt 9, 3) := by decide +kernel
theorem dX1_place_24 : decode cX1_place 24 = .ok (.aload_n 0, 1) := by decide +kernel
theorem dX1_place_25 : decode cX1_place 25 = .ok (.iload_n 3, 1) := by decide +kernel
theorem dX1_place_26 : decode cX1_place 26 = .ok (.invokevirtual 112, 3) := by decide +kernel
theorem dX1_place_29 : decode cX1_place 29 = .ok (.return_, 1) := by decide +kernel
theorem dX1_place_30 : decode cX1_place 30 = .ok (.iconst 0, 1) := by decide +kernel
theorem dX1_place_31 : decode cX1_place 31 = .ok (.istore 5, 2) := by decide +kernel
theorem dX1_place_33 : decode cX1_place 33 = .ok (.iload 5, 2) := by decide +kernel
theorem dX1_place_35 : decode cX1_place 35 = .ok (.iload 4, 2) := by decide +kernel
theorem dX1_place_37 : decode cX1_place 37 = .ok (.if_icmp .ge 104, 3) := by decide +kernel
theorem dX1_place_40 : decode cX1_place 40 = .ok (.iload 5, 2) := by decide +kernel
theorem dX1_place_42 : decode cX1_place 42 = .ok (.bipush 6, 2) := by decide +kernel
theorem dX1_place_44 : decode cX1_place 44 = .ok (.if_icmp .ge 97, 3) := by decide +kernel
theorem dX1_place_47 : decode cX1_place 47 = .ok (.iload_n 3, 1) := by decide +kernel
theorem dX1_place_48 : decode cX1_place 48 = .ok (.invokestatic 115, 3) := by decide +kernel
theorem dX1_place_51 : decode cX1_place 51 = .ok (.ifCond .eq 18, 3) := by decide +kernel
theorem dX1_place_54 : decode cX1_place 54 = .ok (.aload_n 0, 1) := by decide +kernel
theorem dX1_place_55 : decode cX1_place 55 = .ok (.getfield 18, 3) := by decide +kernel
theorem dX1_place_58 : decode cX1_place 58 = .ok (.iload 5, 2) := by decide +kernel
theorem dX1_place_60 : decode cX1_place 60 = .ok (.bipush 97, 2) := by decide +kernel
theorem dX1_place_62 : decode cX1_place 62 = .ok (.imul, 1) := by decide +kernel
theorem dX1_place_63 : decode cX1_place 63 = .ok (.iload_n 3, 1) := by decide +kernel
theorem dX1_place_64 : decode cX1_place 64 = .ok (.iadd, 1) := by decide +kernel
theorem dX1_place_65 : decode cX1_place 65 = .ok (.iaload, 1) := by decide +kernel
theorem dX1_place_66 : decode cX1_place 66 = .ok (.goto 4, 3) := by decide +kernel
theorem dX1_place_69 : decode cX1_place 69 = .ok (.iconst (-1), 1) := by decide +kernel
theorem dX1_place_70 : decode cX1_place 70 = .ok (.istore 6, 2) := by decide +kernel
theorem dX1_place_72 : decode cX1_place 72 = .ok (.iload_n 2, 1) := by decide +kernel
theorem dX1_place_73 : decode cX1_place 73 = .ok (.iload 5, 2) := by decide +kernel
theorem dX1_place_75 : decode cX1_place 75 = .ok (.ishr, 1) := by decide +kernel
theorem dX1_place_76 : decode cX1_place 76 = .ok (.iconst 1, 1) := by decide +kernel
theorem dX1_place_77 : decode cX1_place 77 = .ok (.iand, 1) := by decide +kernel
theorem dX1_place_78 : decode cX1_place 78 = .ok (.ifCond .ne 57, 3) := by decide +kernel
theorem dX1_place_81 : decode cX1_place 81 = .ok (.iload 6, 2) := by decide +kernel
theorem dX1_place_83 : decode cX1_place 83 = .ok (.iconst (-1), 1) := by decide +kernel
theorem dX1_place_84 : decode cX1_place 84 = .ok (.if_icmp .eq 51, 3) := by decide +kernel
theorem dX1_place_87 : decode cX1_place 87 = .ok (.aload_n 0, 1) := by decide +kernel
theorem dX1_place_88 : decode cX1_place 88 = .ok (.getfield 21, 3) := by decide +kernel
theorem dX1_place_91 : decode cX1_place 91 = .ok (.iload_n 1, 1) := by decide +kernel
theorem dX1_place_92 : decode cX1_place 92 = .ok (.iload 5, 2) := by decide +kernel
theorem dX1_place_94 : decode cX1_place 94 = .ok (.iastore, 1) := by decide +kernel
theorem dX1_place_95 : decode cX1_place 95 = .ok (.aload_n 0, 1) := by decide +kernel
theorem dX1_place_96 : decode cX1_place 96 = .ok (.getfield 21, 3) := by decide +kernel
theorem dX1_place_99 : decode cX1_place 99 = .ok (.bipush 6, 2) := by decide +kernel
theorem dX1_place_101 : decode cX1_place 101 = .ok (.iload_n 1, 1) := by decide +kernel
theorem dX1_place_102 : decode cX1_place 102 = .ok (.iadd, 1) := by decide +kernel
theorem dX1_place_103 : decode cX1_place 103 = .ok (.iload 6, 2) := by decide +kernel
theorem dX1_place_105 : decode cX1_place 105 = .ok (.iastore, 1) := by decide +kernel
theorem dX1_place_106 : decode cX1_place 106 = .ok (.aload_n 0, 1) := by decide +kernel
theorem dX1_place_107 : decode cX1_place 107 = .ok (.iload_n 1, 1) := by decide +kernel
theorem dX1_place_108 : decode cX1_place 108 = .ok (.iconst 1, 1) := by decide +kernel
theorem dX1_place_109 : decode cX1_place 109 = .ok (.iadd, 1) := by decide +kernel
theorem dX1_place_110 : decode cX1_place 110 = .ok (.iload_n 2, 1) := by decide +kernel
theorem dX1_place_111 : decode cX1_place 111 = .ok (.iconst 1, 1) := by decide +kernel
theorem dX1_place_112 : decode cX1_place 112 = .ok (.iload 5, 2) := by decide +kernel
theorem dX1_place_114 : decode cX1_place 114 = .ok (.ishl, 1) := by decide +kernel
theorem dX1_place_115 : decode cX1_place 115 = .ok (.ior, 1) := by decide +kernel
theorem dX1_place_116 : decode cX1_place 116 = .ok (.iload 6, 2) := by decide +kernel
theorem dX1_place_118 : decode cX1_place 118 = .ok (.aload_n 0, 1) := by decide +kernel
theorem dX1_place_119 : decode cX1_place 119 = .ok (.getfield 38, 3) := by decide +kernel
theorem dX1_place_122 : decode cX1_place 122 = .ok (.getfield 93, 3) := by decide +kernel
theorem dX1_place_125 : decode cX1_place 125 = .ok (.iload 5, 2) := by decide +kernel
theorem dX1_place_127 : decode cX1_place 127 = .ok (.iconst 1, 1) := by decide +kernel
theorem dX1_place_128 : decode cX1_place 128 = .ok (.invokevirtual 66, 3) := by decide +kernel
theorem dX1_place_131 : decode cX1_place 131 = .ok (.iadd, 1) := by decide +kernel
theorem dX1_place_132 : decode cX1_place 132 = .ok (.invokevirtual 108, 3) := by decide +kernel
theorem dX1_place_135 : decode cX1_place 135 = .ok (.iinc 5 1, 3) := by decide +kernel
theorem dX1_place_138 : decode cX1_place 138 = .ok (.goto (-105), 3) := by decide +kernel
theorem dX1_place_141 : decode cX1_place 141 = .ok (.return_, 1) := by decide +kernel
set_option maxHeartbeats 4000000 in
set_option maxRecDepth 100000 in
theorem c_X1_place (l : Launch) (E : Nat → ClassId) (D : va_G) (G : th_G) (k : Nat) : ∀ (h0 : Nat) (hG0 : G h0 = some (11, 0)) (x1 x2 x3 : Int32) (_ : (0 : Int) ≤ x1.toInt) (_ : (6 : Int) - x1.toInt ≤ (k : Int)), Met l yX1_place (tb (.code yX1_place cX1_place 7 none)) (rm (2 + k)) (va_Pc [.ref h0, .int x1, .int x2, .int x3] (th_P E D G)) (QV E D G) 0 0 (th_A G) := by
  induction k using Nat.strongRecOn with
  | ind k ih =>
  intro h0 hG0 x1 x2 x3 hx1 hk
  refine Met.ofW (cc := cX1_place) (maxL := 7) (ret := none) (by decide) rfl ?_
  intro p e s m args below meth c s₁ B hml hv
  obtain ⟨hav, hI, hN, hK⟩ := hv
  have hx := B.exec
  have hb := B.bytes
  have hr := B.returns
  have hts := atoms_spec (ws := tb (.code yX1_place cX1_place 7 none)) B.pre
  have hown : s.vm.findClass RX1 = some m.cls := findClass_of_methodNamed B.named
  have hlocks := B.notSynchronized
  have hS : va_S (th_A G) s.heap s.heap [] := va_S.rf
  have hl := lv_entry ([.ref h0, .int x1, .int x2, .int x3]) (n := 7) (Nat.le_of_ble_eq_true rfl)
  rw [show entryFrame m args 7 = entryFrame m ([.ref h0, .int x1, .int x2, .int x3] : List Value).toArray 7 from by rw [hav], lg_entry_eq]
  generalize (lg_sl ([.ref h0, .int x1, .int x2, .int x3]) ++ List.replicate (7 - (lg_sl ([.ref h0, .int x1, .int x2, .int x3])).length) Slot.unset).toArray = ls at hl ⊢
  have hl : lv_has ls 7 [(0, .ref h0), (1, .int x1), (2, .int x2), (3, .int x3)] := hl
  generalize hR : (headSpec (tb (.code yX1_place cX1_place 7 none)) (rm (2 + k))).room = R
  have hR := hR.symm
  generalize hQ : MQ below (QV E D G) args s 0 0 (th_A G) = QF
  have hQ := hQ.symm
  have J_33 : ∀ (nn : Nat) (H : Heap) (locs : List Loc) (ls : Array Slot) (v3021 : Int32) (v3022 : Int32), (Int.toNat (6 - v3021.toInt) = nn) → lv_has ls 7 [(5, .int v3021), (4, .int v3022), (0, .ref h0), (1, .int x1), (2, .int x2), (3, .int x3)] → ((0 : Int) ≤ v3021.toInt ∧ v3021.toInt ≤ 6) → ((1 : Int) ≤ v3022.toInt ∧ v3022.toInt ≤ 6) → ((0 : Int) ≤ x1.toInt ∧ x1.toInt ≤ 5) → th_I (okC E) D G [] H → va_S (th_A G) s.heap H locs → W p l e R s m args below meth c H locs 0 0 QF (F0 m 33 ls []) := by
    intro nn
    induction nn using Nat.strongRecOn with
    | ind nn ih_33 =>
      intro H locs ls v3021 v3022 hm hl k3023 k3024 k3025 hI hS
      have J_70 : ∀ (H : Heap) (locs : List Loc) (ls : Array Slot) (v3028 : Int32), lv_has ls 7 [(5, .int v3021), (4, .int v3022), (0, .ref h0), (1, .int x1), (2, .int x2), (3, .int x3)] → ((0 : Int) ≤ v3021.toInt ∧ v3021.toInt ≤ 5) → th_I (okC E) D G [] H → va_S (th_A G) s.heap H locs → W p l e R s m args below meth c H locs 0 0 QF (F0 m 70 ls [.int v3028]) := by
        intro H locs ls v3028 hl k3029 hI hS
        refine lv_istore (lv' := [(6, .int v3028), (5, .int v3021), (4, .int v3022), (0, .ref h0), (1, .int x1), (2, .int x2), (3, .int x3)]) hx hb dX1_place_70 hl (by decide) rfl (fun ls hl => ?_)
        refine lv_iload_n hx hb dX1_place_72 rfl (lv_at hl 5 rfl) ?_
        refine lv_iload hx hb dX1_place_73 (lv_at hl 1 rfl) ?_
        refine lv_ishr hx hb dX1_place_75 ?_
        refine lv_topi (fun v3030 e3031 => ?_)
        refine lv_iconst (v := 1) hx hb dX1_place_76 (by decide) ?_
        refine lv_iand hx hb dX1_place_77 ?_
        refine lv_topi (fun v3032 e3033 => ?_)
        have tv3032 := iv_andr (m := 1) (M := 1) e3033 (by decide) (by decide)
        refine lv_if_ne (tgt := 135) hx hb dX1_place_78 (by decide) (fun c3034 => ?_) (fun c3034 => ?_)
        · skip
          have k3035 := iv_ne (X := v3032.toInt) (Y := (0)) rfl (by decide) c3034
          obtain ⟨v3036, e3037⟩ : ∃ y : Int32, y = v3021 + (1) := ⟨_, rfl⟩
          have tv3036 : v3036.toInt = v3021.toInt + (1) := iv_add rfl (by decide) e3037 (by omega) (by omega)
          refine lv_iinc (v := v3036) (lv' := [(5, .int v3036), (6, .int v3028), (4, .int v3022), (0, .ref h0), (1, .int x1), (2, .int x2), (3, .int x3)]) hx hb dX1_place_135 hl (k := 1) rfl (by rw [e3037]; rfl) (by decide) rfl (fun ls hl => ?_)
          refine lv_goto (tgt := 33) hx hb dX1_place_138 (by decide) ?_
          exact ih_33 _ (by omega) H locs ls v3036 v3022 rfl (lv_sub hl [0, 2, 3, 4, 5, 6] rfl) ⟨by omega, by omega⟩ ⟨by omega, by omega⟩ ⟨by omega, by omega⟩ hI hS
        · skip
          have k3038 := iv_eq (X := v3032.toInt) (Y := (0)) rfl (by decide) c3034
          refine lv_iload hx hb dX1_place_81 (lv_at hl 0 rfl) ?_
          refine lv_iconst (v := (-1)) hx hb dX1_place_83 (by decide) ?_
          have k3039 := iv_lo v3028
          have k3040 := iv_hi v3028
          refine lv_icmp_eq (tgt := 135) hx hb dX1_place_84 (by decide) (fun c3041 => ?_) (fun c3041 => ?_)
          · skip
            have k3042 := iv_eq (X := v3028.toInt) (Y := (-1)) rfl (by decide) c3041
            obtain ⟨v3043, e3044⟩ : ∃ y : Int32, y = v3021 + (1) := ⟨_, rfl⟩
            have tv3043 : v3043.toInt = v3021.toInt + (1) := iv_add rfl (by decide) e3044 (by omega) (by omega)
            refine lv_iinc (v := v3043) (lv' := [(5, .int v3043), (6, .int v3028), (4, .int v3022), (0, .ref h0), (1, .int x1), (2, .int x2), (3, .int x3)]) hx hb dX1_place_135 hl (k := 1) rfl (by rw [e3044]; rfl) (by decide) rfl (fun ls hl => ?_)
            refine lv_goto (tgt := 33) hx hb dX1_place_138 (by decide) ?_
            exact ih_33 _ (by omega) H locs ls v3043 v3022 rfl (lv_sub hl [0, 2, 3, 4, 5, 6] rfl) ⟨by omega, by omega⟩ ⟨by omega, by omega⟩ ⟨by omega, by omega⟩ hI hS
          · skip
            have k3045 := iv_ne (X := v3028.toInt) (Y := (-1)) rfl (by decide) c3041
            refine lv_aload_n hx hb dX1_place_87 rfl (lv_at hl 3 rfl) ?_
            obtain ⟨a3046, a3048, a3050, a3052, a3054, a3056, a3058, a3060, w3062, w3063, w3064, hO, hq3047, hq3049, hq3051, hq3053, hq3055, hq3057, hq3059, hq3061⟩ := op_11 hI hG0 List.not_mem_nil
            have hI := th_I.weak (a := h0) hI
            refine th_get hx hb hts inT1 hown hK hO rfl 6 (by decide) (hts _ (tb_c wd_242)) rfl rfl dX1_place_88 ?_
            refine lv_iload_n hx hb dX1_place_91 rfl (lv_at hl 4 rfl) ?_
            refine lv_iload hx hb dX1_place_92 (lv_at hl 1 rfl) ?_
            obtain ⟨_, hA3065⟩ := op_0 hI hq3059 (th_ne hG0 hq3059 (show (11 : Nat) ≠ 0 by decide))
            refine th_iast hx hb hK hA3065 0 rfl hS ⟨_, hq3059⟩ (iv_in (X := x1.toInt) rfl (by omega) (by omega)) dX1_place_94 (fun H locs hA3065 oq hS => ?_)
            have hI := th_I.put hI hq3059 hA3065 ok_0 oq
            have hO := hO.kept (oq _ (fun z => th_ne hG0 hq3059 (show (11 : Nat) ≠ 0 by decide) (List.mem_singleton.mpr z.symm)))
            refine lv_aload_n hx hb dX1_place_95 rfl (lv_at hl 3 rfl) ?_
            refine th_get hx hb hts inT1 hown hK hO rfl 6 (by decide) (hts _ (tb_c wd_242)) rfl rfl dX1_place_96 ?_
            refine lv_bipush (v := 6) hx hb dX1_place_99 (by decide) ?_
            refine lv_iload_n hx hb dX1_place_101 rfl (lv_at hl 4 rfl) ?_
            refine lv_iadd hx hb dX1_place_102 ?_
            refine lv_topi (fun v3066 e3067 => ?_)
            have tv3066 : v3066.toInt = (6) + x1.toInt := iv_add (by decide) rfl e3067 (by omega) (by omega)
            refine lv_iload hx hb dX1_place_103 (lv_at hl 0 rfl) ?_
            obtain ⟨_, hA3068⟩ := op_0 hI hq3059 (th_ne hG0 hq3059 (show (11 : Nat) ≠ 0 by decide))
            refine th_iast hx hb hK hA3068 0 rfl hS ⟨_, hq3059⟩ (iv_in (X := v3066.toInt) rfl (by omega) (by omega)) dX1_place_105 (fun H locs hA3068 oq hS => ?_)
            have hI := th_I.put hI hq3059 hA3068 ok_0 oq
            have hO := hO.kept (oq _ (fun z => th_ne hG0 hq3059 (show (11 : Nat) ≠ 0 by decide) (List.mem_singleton.mpr z.symm)))
            refine lv_aload_n hx hb dX1_place_106 rfl (lv_at hl 3 rfl) ?_
            refine lv_iload_n hx hb dX1_place_107 rfl (lv_at hl 4 rfl) ?_
            refine lv_iconst (v := 1) hx hb dX1_place_108 (by decide) ?_
            refine lv_iadd hx hb dX1_place_109 ?_
            refine lv_topi (fun v3069 e3070 => ?_)
            have tv3069 : v3069.toInt = x1.toInt + (1) := iv_add rfl (by decide) e3070 (by omega) (by omega)
            refine lv_iload_n hx hb dX1_place_110 rfl (lv_at hl 5 rfl) ?_
            refine lv_iconst (v := 1) hx hb dX1_place_111 (by decide) ?_
            refine lv_iload hx hb dX1_place_112 (lv_at hl 1 rfl) ?_
            refine lv_ishl hx hb dX1_place_114 ?_
            refine lv_topi (fun v3071 e3072 => ?_)
            refine lv_ior hx hb dX1_place_115 ?_
            refine lv_topi (fun v3073 e3074 => ?_)
            refine lv_iload hx hb dX1_place_116 (lv_at hl 0 rfl) ?_
            refine lv_aload_n hx hb dX1_place_118 rfl (lv_at hl 3 rfl) ?_
            refine th_get hx hb hts inT1 hown hK hO rfl 0 (by decide) (hts _ (tb_c wd_236)) rfl rfl dX1_place_119 ?_
            have hI := th_I.close hI hG0 hO (ok_11 hq3047 hq3049 hq3051 hq3053 hq3055 hq3057 hq3059 hq3061)
            obtain ⟨a3075, a3077, a3079, a3081, a3083, a3085, a3087, a3089, a3091, a3093, w3095, w3098, w3099, w3100, hO, hq3076, hq3078, hq3080, hq3082, hq3084, hq3086, hq3088, hq3090, hq3092, hq3094, ⟨k3096, k3097⟩⟩ := op_6 hI hq3047 List.not_mem_nil
            have hI := th_I.weak (a := a3046) hI
            refine th_getN hx hb hts inT6 hown hK hN hO rfl 7 (by decide) wn_76 rfl rfl dX1_place_122 ?_
            refine lv_iload hx hb dX1_place_125 (lv_at hl 1 rfl) ?_
            refine lv_iconst (v := 1) hx hb dX1_place_127 (by decide) ?_
            have hI := th_I.close hI hq3047 hO (ok_6 hq3076 hq3078 hq3080 hq3082 hq3084 hq3086 hq3088 hq3090 hq3092 hq3094 ⟨by omega, by omega⟩)
            refine th_cVi (As := [.int v3021, .int 1]) (rest := [.int v3028, .int v3073, .int v3069, .ref h0]) (n := 2) (d := 0) ⟨hx, hb, hml, hown, hts⟩ (c_X4_at l E D G a3089 (6) hq3090 v3021 1) wd_925 wd_519 wd_520 wd_3 wd_521 (by decide +kernel) ⟨by rw [hR]; show 0 + 1 ≤ 2 + k; omega, by rw [hR]; show 8 + (3 + 11) + 40 * (0) ≤ 40 * (2 + k); omega⟩ hI hN hK hS (rc_4 hI hq3090 List.not_mem_nil) rfl rfl hl.1 rfl (Nat.le_of_ble_eq_true rfl) dX1_place_128 ⟨Nat.zero_le _, Nat.zero_le _⟩ (fun r3101 H locs hp hI hS => ?_)
            refine lv_iadd hx hb dX1_place_131 ?_
            refine lv_topi (fun v3102 e3103 => ?_)
            try have tv3102 : v3102.toInt = v3028.toInt + r3101.toInt := iv_add rfl rfl e3103 (by omega) (by omega)
            refine th_cVv (As := [.int v3069, .int v3073, .int v3102]) (rest := []) (n := 3) (d := (2 + (k - 1))) ⟨hx, hb, hml, hown, hts⟩ (ih (k - 1) (by omega) h0 hG0 v3069 v3073 v3102 (by omega) (by omega)) wd_1070 wd_1072 wp_34 wd_9 wd_1073 (by decide +kernel) ⟨by rw [hR]; show (2 + (k - 1)) + 1 ≤ 2 + k; omega, by rw [hR]; show 8 + (7 + 11) + 40 * ((2 + (k - 1))) ≤ 40 * (2 + k); omega⟩ hI hN hK hS (rc_11 hI hG0 List.not_mem_nil) rfl rfl hl.1 rfl (Nat.le_of_ble_eq_true rfl) dX1_place_132 ⟨Nat.zero_le _, Nat.zero_le _⟩ (fun H locs hI hS => ?_)
            obtain ⟨v3105, e3106⟩ : ∃ y : Int32, y = v3021 + (1) := ⟨_, rfl⟩
            have tv3105 : v3105.toInt = v3021.toInt + (1) := iv_add rfl (by decide) e3106 (by omega) (by omega)
            refine lv_iinc (v := v3105) (lv' := [(5, .int v3105), (6, .int v3028), (4, .int v3022), (0, .ref h0), (1, .int x1), (2, .int x2), (3, .int x3)]) hx hb dX1_place_135 hl (k := 1) rfl (by rw [e3106]; rfl) (by decide) rfl (fun ls hl => ?_)
            refine lv_goto (tgt := 33) hx hb dX1_place_138 (by decide) ?_
            exact ih_33 _ (by omega) H locs ls v3105 v3022 rfl (lv_sub hl [0, 2, 3, 4, 5, 6] rfl) ⟨by omega, by omega⟩ ⟨by omega, by omega⟩ ⟨by omega, by omega⟩ hI hS
      refine lv_iload hx hb dX1_place_33 (lv_at hl 0 rfl) ?_
      refine lv_iload hx hb dX1_place_35 (lv_at hl 1 rfl) ?_
      refine lv_icmp_ge (tgt := 141) hx hb dX1_place_37 (by decide) (fun c3107 => ?_) (fun c3107 => ?_)
      · skip
        have k3108 := iv_le (X := v3022.toInt) (Y := v3021.toInt) rfl rfl c3107
        rw [hQ]
        exact W.vret hx hb hr (fun t ht hW => ⟨⟨(), rfl, trivial, by rw [ht]; exact hI, hN.warm hW, va_K.moved hW.alike hK⟩, hS.F ht⟩) hS.2.2 dX1_place_141
      · skip
        have k3109 := iv_nle (X := v3022.toInt) (Y := v3021.toInt) rfl rfl c3107
        refine lv_iload hx hb dX1_place_40 (lv_at hl 0 rfl) ?_
        refine lv_bipush (v := 6) hx hb dX1_place_42 (by decide) ?_
        refine lv_icmp_ge (tgt := 141) hx hb dX1_place_44 (by decide) (fun c3110 => ?_) (fun c3110 => ?_)
        · skip
          have k3111 := iv_le (X := (6)) (Y := v3021.toInt) (by decide) rfl c3110
          exfalso; omega
        · skip
          have k3112 := iv_nle (X := (6)) (Y := v3021.toInt) (by decide) rfl c3110
          refine lv_iload_n hx hb dX1_place_47 rfl (lv_at hl 5 rfl) ?_
          refine th_cSN (As := [.int x3]) (rest := []) (n := 1) (d := 0) ⟨hx, hb, hml, hown, hts⟩ (c_X11_isMoment l H x3) wn_1079 wd_827 wd_1 wd_828 (by decide +kernel) ⟨by rw [hR]; show 0 + 1 ≤ 2 + k; omega, by rw [hR]; show 8 + (1 + 11) + 40 * (0) ≤ 40 * (2 + k); omega⟩ hN hS rfl hl.1 rfl (Nat.le_of_ble_eq_true rfl) dX1_place_48 ⟨Nat.zero_le _, Nat.zero_le _⟩ (fun r3113 locs hp hS => ?_)
          rcases hp with ⟨rfl, hp⟩ | ⟨rfl, hp⟩
          · skip
            try simp only [rg, not_and, Int.not_le] at hp
            have hp3114 := hp
            refine lv_if_eq (tgt := 69) hx hb dX1_place_51 (by decide) (fun c => absurd c (by decide)) (fun _ => ?_)
            refine lv_aload_n hx hb dX1_place_54 rfl (lv_at hl 2 rfl) ?_
            obtain ⟨a3115, a3117, a3119, a3121, a3123, a3125, a3127, a3129, w3131, w3132, w3133, hO, hq3116, hq3118, hq3120, hq3122, hq3124, hq3126, hq3128, hq3130⟩ := op_11 hI hG0 List.not_mem_nil
            have hI := th_I.weak (a := h0) hI
            refine th_get hx hb hts inT1 hown hK hO rfl 5 (by decide) (hts _ (tb_c wd_241)) rfl rfl dX1_place_55 ?_
            refine lv_iload hx hb dX1_place_58 (lv_at hl 0 rfl) ?_
            refine lv_bipush (v := 97) hx hb dX1_place_60 (by decide) ?_
            refine lv_imul hx hb dX1_place_62 ?_
            refine lv_topi (fun v3134 e3135 => ?_)
            have tv3134 : v3134.toInt = v3021.toInt * (97) := iv_mul rfl (by decide) e3135 (by omega) (by omega)
            refine lv_iload_n hx hb dX1_place_63 rfl (lv_at hl 5 rfl) ?_
            refine lv_iadd hx hb dX1_place_64 ?_
            refine lv_topi (fun v3136 e3137 => ?_)
            have tv3136 : v3136.toInt = v3134.toInt + x3.toInt := iv_add rfl rfl e3137 (by omega) (by omega)
            obtain ⟨_, hA3138⟩ := op_0 hI hq3126 (th_ne hG0 hq3126 (show (11 : Nat) ≠ 0 by decide))
            refine th_iald hx hb hK hA3138 0 rfl (iv_in (X := v3136.toInt) rfl (by omega) (by omega)) dX1_place_65 (fun v3139 _ => ?_)
            refine lv_goto (tgt := 70) hx hb dX1_place_66 (by decide) ?_
            have hI := th_I.close hI hG0 hO (ok_11 hq3116 hq3118 hq3120 hq3122 hq3124 hq3126 hq3128 hq3130)
            exact J_70 H locs ls v3139 (lv_sub hl [0, 1, 2, 3, 4, 5] rfl) ⟨by omega, by omega⟩ hI hS
          · skip
            try simp only [rg, not_and, Int.not_le] at hp
            have hp3140 := hp
            refine lv_if_eq (tgt := 69) hx hb dX1_place_51 (by decide) (fun _ => ?_) (fun c => absurd c (by decide))
            refine lv_iconst (v := (-1)) hx hb dX1_place_69 (by decide) ?_
            exact J_70 H locs ls (-1) (lv_sub hl [0, 1, 2, 3, 4, 5] rfl) ⟨by omega, by omega⟩ hI hS
  have J_24 : ∀ (H : Heap) (locs : List Loc) (ls : Array Slot) (v3141 : Int32), lv_has ls 7 [(4, .int v3141), (0, .ref h0), (1, .int x1), (2, .int x2), (3, .int x3)] → ((0 : Int) ≤ v3141.toInt ∧ v3141.toInt ≤ 6) → ((0 : Int) ≤ x1.toInt) → th_I (okC E) D G [] H → va_S (th_A G) s.heap H locs → W p l e R s m args below meth c H locs 0 0 QF (F0 m 24 ls []) := by
    intro H locs ls v3141 hl k3142 k3143 hI hS
    refine lv_aload_n hx hb dX1_place_24 rfl (lv_at hl 1 rfl) ?_
    refine lv_iload_n hx hb dX1_place_25 rfl (lv_at hl 4 rfl) ?_
    refine th_cVv (As := [.int x3]) (rest := []) (n := 1) (d := 1) ⟨hx, hb, hml, hown, hts⟩ (c_X1_finish l E D G h0 hG0 x3) wd_1074 wd_1076 wp_35 wd_9 wd_1077 (by decide +kernel) ⟨by rw [hR]; show 1 + 1 ≤ 2 + k; omega, by rw [hR]; show 8 + (2 + 11) + 40 * (1) ≤ 40 * (2 + k); omega⟩ hI hN hK hS (rc_11 hI hG0 List.not_mem_nil) rfl rfl hl.1 rfl (Nat.le_of_ble_eq_true rfl) dX1_place_26 ⟨Nat.zero_le _, Nat.zero_le _⟩ (fun H locs hI hS => ?_)
    rw [hQ]
    exact W.vret hx hb hr (fun t ht hW => ⟨⟨(), rfl, trivial, by rw [ht]; exact hI, hN.warm hW, va_K.moved hW.alike hK⟩, hS.F ht⟩) hS.2.2 dX1_place_29
  refine lv_aload_n hx hb dX1_place_0 rfl (lv_at hl 0 rfl) ?_
  obtain ⟨a3145, a3147, a3149, a3151, a3153, a3155, a3157, a3159, w3161, w3162, w3163, hO, hq3146, hq3148, hq3150, hq3152, hq3154, hq3156, hq3158, hq3160⟩ := op_11 hI hG0 List.not_mem_nil
  have hI := th_I.weak (a := h0) hI
  refine th_get hx hb hts inT1 hown hK hO rfl 0 (by decide) (hts _ (tb_c wd_236)) rfl rfl dX1_place_1 ?_
  have hI := th_I.close hI hG0 hO (ok_11 hq3146 hq3148 hq3150 hq3152 hq3154 hq3156 hq3158 hq3160)
  obtain ⟨a3164, a3166, a3168, a3170, a3172, a3174, a3176, a3178, a3180, a3182, w3184, w3187, w3188, w3189, hO, hq3165, hq3167, hq3169, hq3171, hq3173, hq3175, hq3177, hq3179, hq3181, hq3183, ⟨k3185, k3186⟩⟩ := op_6 hI hq3146 List.not_mem_nil
  have hI := th_I.weak (a := a3145) hI
  refine th_getN hx hb hts inT6 hown hK hN hO rfl 7 (by decide) wn_76 rfl rfl dX1_place_4 ?_
  have hI := th_I.close hI hq3146 hO (ok_6 hq3165 hq3167 hq3169 hq3171 hq3173 hq3175 hq3177 hq3179 hq3181 hq3183 ⟨by omega, by omega⟩)
  obtain ⟨a3191, w3193, hO, hq3192, ⟨k3194, k3195⟩, k3196⟩ := op_4 hI hq3179 List.not_mem_nil
  have hI := th_I.weak (a := a3178) hI
  have k3197 : (nI 6).toInt = ((6 : Nat) : Int) := nI_toInt (by omega)
  refine th_cVs (As := []) (rest := []) (n := 0) (d := 0) ⟨hx, hb, hml, hown, hts⟩ (c_X4_size l E D s.heap a3178 6 a3191 w3193 hO (by omega) (by omega) (by omega)) wd_920 wd_507 wd_508 wd_3 wd_509 (by decide +kernel) ⟨by rw [hR]; show 0 + 1 ≤ 2 + k; omega, by rw [hR]; show 8 + (1 + 11) + 40 * (0) ≤ 40 * (2 + k); omega⟩ hN hK hS ⟨_, hO⟩ rfl rfl hl.1 rfl (Nat.le_of_ble_eq_true rfl) dX1_place_7 ⟨Nat.zero_le _, Nat.zero_le _⟩ (fun r3190 locs hp hS => ?_)
  have hp := hp.symm
  subst hp
  refine lv_istore (lv' := [(4, .int w3193), (0, .ref h0), (1, .int x1), (2, .int x2), (3, .int x3)]) hx hb dX1_place_10 hl (by decide) rfl (fun ls hl => ?_)
  refine lv_iload_n hx hb dX1_place_12 rfl (lv_at hl 2 rfl) ?_
  refine lv_iload hx hb dX1_place_13 (lv_at hl 0 rfl) ?_
  have k3198 := iv_lo x1
  have k3199 := iv_hi x1
  refine lv_icmp_ge (tgt := 24) hx hb dX1_place_15 (by decide) (fun c3200 => ?_) (fun c3200 => ?_)
  · skip
    have k3201 := iv_le (X := w3193.toInt) (Y := x1.toInt) rfl rfl c3200
    have hI := th_I.close hI hq3179 hO (ok_4 hq3192 ⟨by omega, by omega⟩ (by omega))
    exact J_24 s.heap locs ls w3193 (lv_sub hl [0, 1, 2, 3, 4] rfl) ⟨by omega, by omega⟩ (by omega) hI hS
  · skip
    have k3202 := iv_nle (X := w3193.toInt) (Y := x1.toInt) rfl rfl c3200
    refine lv_iload_n hx hb dX1_place_18 rfl (lv_at hl 2 rfl) ?_
    refine lv_bipush (v := 6) hx hb dX1_place_19 (by decide) ?_
    refine lv_icmp_lt (tgt := 30) hx hb dX1_place_21 (by decide) (fun c3203 => ?_) (fun c3203 => ?_)
    · skip
      have k3204 := iv_lt (X := x1.toInt) (Y := (6)) rfl (by decide) c3203
      refine lv_iconst (v := 0) hx hb dX1_place_30 (by decide) ?_
      refine lv_istore (lv' := [(5, .int 0), (4, .int w3193), (0, .ref h0), (1, .int x1), (2, .int x2), (3, .int x3)]) hx hb dX1_place_31 hl (by decide) rfl (fun ls hl => ?_)
      have hI := th_I.close hI hq3179 hO (ok_4 hq3192 ⟨by omega, by omega⟩ (by omega))
      have zl : (0 : Int32).toInt = 0 := by decide
      exact J_33 _ s.heap locs ls 0 w3193 rfl (lv_sub hl [0, 1, 2, 3, 4, 5] rfl) ⟨by decide, by decide⟩ ⟨by omega, by omega⟩ ⟨by omega, by omega⟩ hI hS
    · skip
      have k3205 := iv_nlt (X := x1.toInt) (Y := (6)) rfl (by decide) c3203
      exfalso; omega
theorem dX1_wash_0 : decode cX1_wash 0 = .ok (.aload_n 0, 1) := by decide +kernel
theorem dX1_wash_1 : decode cX1_wash 1 = .ok (.iconst (-1), 1) := by decide +kernel
theorem dX1_wash_2 : decode cX1_wash 2 = .ok (.putfield 27, 3) := by decide +kernel
theorem dX1_wash_5 : decode cX1_wash 5 = .ok (.aload_n 0, 1) := by decide +kernel
theorem dX1_wash_6 : decode cX1_wash 6 = .ok (.iconst 0, 1) := by decide +kernel
theorem dX1_wash_7 : decode cX1_wash 7 = .ok (.putfield 31, 3) := by decide +kernel
theorem dX1_wash_10 : decode cX1_wash 10 = .ok (.aload_n 0, 1) := by decide +kernel
theorem dX1_wash_11 : decode cX1_wash 11 = .ok (.invokevirtual 101, 3) := by decide +kernel
theorem dX1_wash_14 : decode cX1_wash 14 = .ok (.iconst 0, 1) := by decide +kernel
theorem dX1_wash_15 : decode cX1_wash 15 = .ok (.istore_n 1, 1) := by decide +kernel
theorem dX1_wash_16 : decode cX1_wash 16 = .ok (.iload_n 1, 1) := by decide +kernel
theorem dX1_wash_17 : decode cX1_wash 17 = .ok (.aload_n 0, 1) := by decide +kernel
theorem dX1_wash_18 : decode cX1_wash 18 = .ok (.getfield 38, 3) := by decide +kernel
theorem dX1_wash_21 : decode cX1_wash 21 = .ok (.getfield 93, 3) := by decide +kernel
theorem dX1_wash_24 : decode cX1_wash 24 = .ok (.invokevirtual 56, 3) := by decide +kernel
theorem dX1_wash_27 : decode cX1_wash 27 = .ok (.if_icmp .ge 20, 3) := by decide +kernel
theorem dX1_wash_30 : decode cX1_wash 30 = .ok (.iload_n 1, 1) := by decide +kernel
theorem dX1_wash_31 : decode cX1_wash 31 = .ok (.bipush 6, 2) := by decide +kernel
theorem dX1_wash_33 : decode cX1_wash 33 = .ok (.if_icmp .ge 14, 3) := by decide +kernel
theorem dX1_wash_36 : decode cX1_wash 36 = .ok (.aload_n 0, 1) := by decide +kernel
theorem dX1_wash_37 : decode cX1_wash 37 = .ok (.iload_n 1, 1) := by decide +kernel
theorem dX1_wash_38 : decode cX1_wash 38 = .ok (.invokevirtual 104, 3) := by decide +kernel
theorem dX1_wash_41 : decode cX1_wash 41 = .ok (.iinc 1 1, 3) := by decide +kernel
theorem dX1_wash_44 : decode cX1_wash 44 = .ok (.goto (-28), 3) := by decide +kernel
theorem dX1_wash_47 : decode cX1_wash 47 = .ok (.aload_n 0, 1) := by decide +kernel
theorem dX1_wash_48 : decode cX1_wash 48 = .ok (.iconst 0, 1) := by decide +kernel
theorem dX1_wash_49 : decode cX1_wash 49 = .ok (.iconst 0, 1) := by decide +kernel
theorem dX1_wash_50 : decode cX1_wash 50 = .ok (.iconst 0, 1) := by decide +kernel
theorem dX1_wash_51 : decode cX1_wash 51 = .ok (.invokevirtual 108, 3) := by decide +kernel
theorem dX1_wash_54 : decode cX1_wash 54 = .ok (.return_, 1) := by decide +kernel
set_option maxHeartbeats 4000000 in
set_option maxRecDepth 100000 in
theorem c_X1_wash (l : Launch) (E : Nat → ClassId) (D : va_G) (G : th_G) (h0 : Nat) (hG0 : G h0 = some (11, 0)) : Met l yX1_wash (tb (.code yX1_wash cX1_wash 2 none)) (rm 9) (va_Pc [.ref h0] (th_P E D G)) (QV E D G) 0 0 (th_A G) := by
  refine Met.ofW (cc := cX1_wash) (maxL := 2) (ret := none) (by decide) rfl ?_
  intro p e s m args below meth c s₁ B hml hv
  obtain ⟨hav, hI, hN, hK⟩ := hv
  have hx := B.exec
  have hb := B.bytes
  have hr := B.returns
  have hts := atoms_spec (ws := tb (.code yX1_wash cX1_wash 2 none)) B.pre
  have hown : s.vm.findClass RX1 = some m.cls := findClass_of_methodNamed B.named
  have hlocks := B.notSynchronized
  have hS : va_S (th_A G) s.heap s.heap [] := va_S.rf
  have hl := lv_entry ([.ref h0]) (n := 2) (Nat.le_of_ble_eq_true rfl)
  rw [show entryFrame m args 2 = entryFrame m ([.ref h0] : List Value).toArray 2 from by rw [hav], lg_entry_eq]
  generalize (lg_sl ([.ref h0]) ++ List.replicate (2 - (lg_sl ([.ref h0])).length) Slot.unset).toArray = ls at hl ⊢
  have hl : lv_has ls 2 [(0, .ref h0)] := hl
  generalize hR : (headSpec (tb (.code yX1_wash cX1_wash 2 none)) (rm 9)).room = R
  have hR := hR.symm
  generalize hQ : MQ below (QV E D G) args s 0 0 (th_A G) = QF
  have hQ := hQ.symm
  have J_16 : ∀ (nn : Nat) (H : Heap) (locs : List Loc) (ls : Array Slot) (v1028 : Int32), (Int.toNat (6 - v1028.toInt) = nn) → lv_has ls 2 [(1, .int v1028), (0, .ref h0)] → ((0 : Int) ≤ v1028.toInt ∧ v1028.toInt ≤ 6) → th_I (okC E) D G [] H → va_S (th_A G) s.heap H locs → W p l e R s m args below meth c H locs 0 0 QF (F0 m 16 ls []) := by
    intro nn
    induction nn using Nat.strongRecOn with
    | ind nn ih_16 =>
      intro H locs ls v1028 hm hl k1029 hI hS
      refine lv_iload_n hx hb dX1_wash_16 rfl (lv_at hl 0 rfl) ?_
      refine lv_aload_n hx hb dX1_wash_17 rfl (lv_at hl 1 rfl) ?_
      obtain ⟨a1030, a1032, a1034, a1036, a1038, a1040, a1042, a1044, w1046, w1047, w1048, hO, hq1031, hq1033, hq1035, hq1037, hq1039, hq1041, hq1043, hq1045⟩ := op_11 hI hG0 List.not_mem_nil
      have hI := th_I.weak (a := h0) hI
      refine th_get hx hb hts inT1 hown hK hO rfl 0 (by decide) (hts _ (tb_c wd_236)) rfl rfl dX1_wash_18 ?_
      have hI := th_I.close hI hG0 hO (ok_11 hq1031 hq1033 hq1035 hq1037 hq1039 hq1041 hq1043 hq1045)
      obtain ⟨a1049, a1051, a1053, a1055, a1057, a1059, a1061, a1063, a1065, a1067, w1069, w1072, w1073, w1074, hO, hq1050, hq1052, hq1054, hq1056, hq1058, hq1060, hq1062, hq1064, hq1066, hq1068, ⟨k1070, k1071⟩⟩ := op_6 hI hq1031 List.not_mem_nil
      have hI := th_I.weak (a := a1030) hI
      refine th_getN hx hb hts inT6 hown hK hN hO rfl 7 (by decide) wn_76 rfl rfl dX1_wash_21 ?_
      have hI := th_I.close hI hq1031 hO (ok_6 hq1050 hq1052 hq1054 hq1056 hq1058 hq1060 hq1062 hq1064 hq1066 hq1068 ⟨by omega, by omega⟩)
      obtain ⟨a1076, w1078, hO, hq1077, ⟨k1079, k1080⟩, k1081⟩ := op_4 hI hq1064 List.not_mem_nil
      have hI := th_I.weak (a := a1063) hI
      have k1082 : (nI 6).toInt = ((6 : Nat) : Int) := nI_toInt (by omega)
      refine th_cVs (As := []) (rest := [.int v1028]) (n := 0) (d := 0) ⟨hx, hb, hml, hown, hts⟩ (c_X4_size l E D H a1063 6 a1076 w1078 hO (by omega) (by omega) (by omega)) wd_920 wd_507 wd_508 wd_3 wd_509 (by decide +kernel) ⟨by rw [hR]; exact Nat.le_of_ble_eq_true rfl, by rw [hR]; exact Nat.le_of_ble_eq_true rfl⟩ hN hK hS ⟨_, hO⟩ rfl rfl hl.1 rfl (Nat.le_of_ble_eq_true rfl) dX1_wash_24 ⟨Nat.zero_le _, Nat.zero_le _⟩ (fun r1075 locs hp hS => ?_)
      have hp := hp.symm
      subst hp
      refine lv_icmp_ge (tgt := 47) hx hb dX1_wash_27 (by decide) (fun c1083 => ?_) (fun c1083 => ?_)
      · skip
        have k1084 := iv_le (X := w1078.toInt) (Y := v1028.toInt) rfl rfl c1083
        refine lv_aload_n hx hb dX1_wash_47 rfl (lv_at hl 1 rfl) ?_
        refine lv_iconst (v := 0) hx hb dX1_wash_48 (by decide) ?_
        refine lv_iconst (v := 0) hx hb dX1_wash_49 (by decide) ?_
        refine lv_iconst (v := 0) hx hb dX1_wash_50 (by decide) ?_
        have hI := th_I.close hI hq1064 hO (ok_4 hq1077 ⟨by omega, by omega⟩ (by omega))
        refine th_cVv (As := [.int 0, .int 0, .int 0]) (rest := []) (n := 3) (d := 8) ⟨hx, hb, hml, hown, hts⟩ (c_X1_place l E D G 6 h0 hG0 0 0 0 (by decide) (by decide)) wd_1070 wd_1072 wp_34 wd_9 wd_1073 (by decide +kernel) ⟨by rw [hR]; exact Nat.le_of_ble_eq_true rfl, by rw [hR]; exact Nat.le_of_ble_eq_true rfl⟩ hI hN hK hS (rc_11 hI hG0 List.not_mem_nil) rfl rfl hl.1 rfl (Nat.le_of_ble_eq_true rfl) dX1_wash_51 ⟨Nat.zero_le _, Nat.zero_le _⟩ (fun H locs hI hS => ?_)
        rw [hQ]
        exact W.vret hx hb hr (fun t ht hW => ⟨⟨(), rfl, trivial, by rw [ht]; exact hI, hN.warm hW, va_K.moved hW.alike hK⟩, hS.F ht⟩) hS.2.2 dX1_wash_54
      · skip
        have k1086 := iv_nle (X := w1078.toInt) (Y := v1028.toInt) rfl rfl c1083
        refine lv_iload_n hx hb dX1_wash_30 rfl (lv_at hl 0 rfl) ?_
        refine lv_bipush (v := 6) hx hb dX1_wash_31 (by decide) ?_
        refine lv_icmp_ge (tgt := 47) hx hb dX1_wash_33 (by decide) (fun c1087 => ?_) (fun c1087 => ?_)
        · skip
          have k1088 := iv_le (X := (6)) (Y := v1028.toInt) (by decide) rfl c1087
          exfalso; omega
        · skip
          have k1089 := iv_nle (X := (6)) (Y := v1028.toInt) (by decide) rfl c1087
          refine lv_aload_n hx hb dX1_wash_36 rfl (lv_at hl 1 rfl) ?_
          refine lv_iload_n hx hb dX1_wash_37 rfl (lv_at hl 0 rfl) ?_
          have hI := th_I.close hI hq1064 hO (ok_4 hq1077 ⟨by omega, by omega⟩ (by omega))
          refine th_cVv (As := [.int v1028]) (rest := []) (n := 1) (d := 1) ⟨hx, hb, hml, hown, hts⟩ (c_X1_findBegins l E D G h0 hG0 v1028 ⟨by omega, by omega⟩) wd_1066 wd_1068 wp_33 wd_9 wd_1069 (by decide +kernel) ⟨by rw [hR]; exact Nat.le_of_ble_eq_true rfl, by rw [hR]; exact Nat.le_of_ble_eq_true rfl⟩ hI hN hK hS (rc_11 hI hG0 List.not_mem_nil) rfl rfl hl.1 rfl (Nat.le_of_ble_eq_true rfl) dX1_wash_38 ⟨Nat.zero_le _, Nat.zero_le _⟩ (fun H locs hI hS => ?_)
          obtain ⟨v1091, e1092⟩ : ∃ y : Int32, y = v1028 + (1) := ⟨_, rfl⟩
          have tv1091 : v1091.toInt = v1028.toInt + (1) := iv_add rfl (by decide) e1092 (by omega) (by omega)
          refine lv_iinc (v := v1091) (lv' := [(1, .int v1091), (0, .ref h0)]) hx hb dX1_wash_41 hl (k := 0) rfl (by rw [e1092]; rfl) (by decide) rfl (fun ls hl => ?_)
          refine lv_goto (tgt := 16) hx hb dX1_wash_44 (by decide) ?_
          exact ih_16 _ (by omega) H locs ls v1091 rfl (lv_sub hl [0, 1] rfl) ⟨by omega, by omega⟩ hI hS
  refine lv_aload_n hx hb dX1_wash_0 rfl (lv_at hl 0 rfl) ?_
  refine lv_iconst (v := (-1)) hx hb dX1_wash_1 (by decide) ?_
  obtain ⟨a1093, a1095, a1097, a1099, a1101, a1103, a1105, a1107, w1109, w1110, w1111, hO, hq1094, hq1096, hq1098, hq1100, hq1102, hq1104, hq1106, hq1108⟩ := op_11 hI hG0 List.not_mem_nil
  have hI := th_I.weak (a := h0) hI
  refine th_put (ty := .int) hx hb hts inT1 tyX1 tyX1_ok nmX1 hown hK hO hS ⟨_, hG0⟩ rfl 8 (by decide) (hts _ (tb_c wd_244)) rfl rfl (by decide +kernel) rfl rfl (Nat.le_of_ble_eq_true rfl) dX1_wash_2 (fun H locs hO oq hS => ?_)
  have hI := th_I.moved hI oq
  have hO : va_at D vwCl (h0, .inr (1, [.ref a1093, .ref a1095, .ref a1097, .ref a1099, .ref a1101, .ref a1103, .ref a1105, .ref a1107, .int (-1), .int w1110, .int w1111])) H := hO
  refine lv_aload_n hx hb dX1_wash_5 rfl (lv_at hl 0 rfl) ?_
  refine lv_iconst (v := 0) hx hb dX1_wash_6 (by decide) ?_
  refine th_put (ty := .int) hx hb hts inT1 tyX1 tyX1_ok nmX1 hown hK hO hS ⟨_, hG0⟩ rfl 9 (by decide) (hts _ (tb_c wd_245)) rfl rfl (by decide +kernel) rfl rfl (Nat.le_of_ble_eq_true rfl) dX1_wash_7 (fun H locs hO oq hS => ?_)
  have hI := th_I.moved hI oq
  have hO : va_at D vwCl (h0, .inr (1, [.ref a1093, .ref a1095, .ref a1097, .ref a1099, .ref a1101, .ref a1103, .ref a1105, .ref a1107, .int (-1), .int 0, .int w1111])) H := hO
  refine lv_aload_n hx hb dX1_wash_10 rfl (lv_at hl 0 rfl) ?_
  have hI := th_I.close hI hG0 hO (ok_11 hq1094 hq1096 hq1098 hq1100 hq1102 hq1104 hq1106 hq1108)
  refine th_cVv (As := []) (rest := []) (n := 0) (d := 5) ⟨hx, hb, hml, hown, hts⟩ (c_X1_tint l E D G h0 hG0 ) wd_1062 wd_1064 wp_32 wd_9 wd_1065 (by decide +kernel) ⟨by rw [hR]; exact Nat.le_of_ble_eq_true rfl, by rw [hR]; exact Nat.le_of_ble_eq_true rfl⟩ hI hN hK hS (rc_11 hI hG0 List.not_mem_nil) rfl rfl hl.1 rfl (Nat.le_of_ble_eq_true rfl) dX1_wash_11 ⟨Nat.zero_le _, Nat.zero_le _⟩ (fun H locs hI hS => ?_)
  refine lv_iconst (v := 0) hx hb dX1_wash_14 (by decide) ?_
  refine lv_istore_n (lv' := [(1, .int 0), (0, .ref h0)]) hx hb dX1_wash_15 rfl hl (by decide) rfl (fun ls hl => ?_)
  have zl : (0 : Int32).toInt = 0 := by decide
  exact J_16 _ H locs ls 0 rfl (lv_sub hl [0, 1] rfl) ⟨by decide, by decide⟩ hI hS
theorem dX1_washing_0 : decode cX1_washing 0 = .ok (.aload_n 0, 1) := by decide +kernel
theorem dX1_washing_1 : decode cX1_washing 1 = .ok (.getfield 34, 3) := by decide +kernel
theorem dX1_washing_4 : decode cX1_washing 4 = .ok (.ifCond .eq 12, 3) := by decide +kernel
theorem dX1_washing_7 : decode cX1_washing 7 = .ok (.aload_n 0, 1) := by decide +kernel
theorem dX1_washing_8 : decode cX1_washing 8 = .ok (.invokevirtual 90, 3) := by decide +kernel
theorem dX1_washing_11 : decode cX1_washing 11 = .ok (.aload_n 0, 1) := by decide +kernel
theorem dX1_washing_12 : decode cX1_washing 12 = .ok (.iconst 0, 1) := by decide +kernel
theorem dX1_washing_13 : decode cX1_washing 13 = .ok (.putfield 34, 3) := by decide +kernel
theorem dX1_washing_16 : decode cX1_washing 16 = .ok (.iload_n 1, 1) := by decide +kernel
theorem dX1_washing_17 : decode cX1_washing 17 = .ok (.ifCond .ne 8, 3) := by decide +kernel
theorem dX1_washing_20 : decode cX1_washing 20 = .ok (.aload_n 0, 1) := by decide +kernel
theorem dX1_washing_21 : decode cX1_washing 21 = .ok (.getfield 27, 3) := by decide +kernel
theorem dX1_washing_24 : decode cX1_washing 24 = .ok (.ireturn, 1) := by decide +kernel
theorem dX1_washing_25 : decode cX1_washing 25 = .ok (.iload_n 1, 1) := by decide +kernel
theorem dX1_washing_26 : decode cX1_washing 26 = .ok (.iconst 1, 1) := by decide +kernel
theorem dX1_washing_27 : decode cX1_washing 27 = .ok (.if_icmp .ne 8, 3) := by decide +kernel
theorem dX1_washing_30 : decode cX1_washing 30 = .ok (.aload_n 0, 1) := by decide +kernel
theorem dX1_washing_31 : decode cX1_washing 31 = .ok (.getfield 31, 3) := by decide +kernel
theorem dX1_washing_34 : decode cX1_washing 34 = .ok (.ireturn, 1) := by decide +kernel
theorem dX1_washing_35 : decode cX1_washing 35 = .ok (.iload_n 1, 1) := by decide +kernel
theorem dX1_washing_36 : decode cX1_washing 36 = .ok (.bipush 8, 2) := by decide +kernel
theorem dX1_washing_38 : decode cX1_washing 38 = .ok (.if_icmp .ge 9, 3) := by decide +kernel
theorem dX1_washing_41 : decode cX1_washing 41 = .ok (.iload_n 1, 1) := by decide +kernel
theorem dX1_washing_42 : decode cX1_washing 42 = .ok (.iconst 2, 1) := by decide +kernel
theorem dX1_washing_43 : decode cX1_washing 43 = .ok (.isub, 1) := by decide +kernel
theorem dX1_washing_44 : decode cX1_washing 44 = .ok (.goto 7, 3) := by decide +kernel
theorem dX1_washing_47 : decode cX1_washing 47 = .ok (.iload_n 1, 1) := by decide +kernel
theorem dX1_washing_48 : decode cX1_washing 48 = .ok (.bipush 8, 2) := by decide +kernel
theorem dX1_washing_50 : decode cX1_washing 50 = .ok (.isub, 1) := by decide +kernel
theorem dX1_washing_51 : decode cX1_washing 51 = .ok (.istore_n 2, 1) := by decide +kernel
theorem dX1_washing_52 : decode cX1_washing 52 = .ok (.aload_n 0, 1) := by decide +kernel
theorem dX1_washing_53 : decode cX1_washing 53 = .ok (.getfield 27, 3) := by decide +kernel
theorem dX1_washing_56 : decode cX1_washing 56 = .ok (.iconst (-1), 1) := by decide +kernel
theorem dX1_washing_57 : decode cX1_washing 57 = .ok (.if_icmp .eq 27, 3) := by decide +kernel
theorem dX1_washing_60 : decode cX1_washing 60 = .ok (.iload_n 2, 1) := by decide +kernel
theorem dX1_washing_61 : decode cX1_washing 61 = .ok (.ifCond .lt 23, 3) := by decide +kernel
theorem dX1_washing_64 : decode cX1_washing 64 = .ok (.iload_n 2, 1) := by decide +kernel
theorem dX1_washing_65 : decode cX1_washing 65 = .ok (.aload_n 0, 1) := by decide +kernel
theorem dX1_washing_66 : decode cX1_washing 66 = .ok (.getfield 38, 3) := by decide +kernel
theorem dX1_washing_69 : decode cX1_washing 69 = .ok (.getfield 93, 3) := by decide +kernel
theorem dX1_washing_72 : decode cX1_washing 72 = .ok (.invokevirtual 56, 3) := by decide +kernel
theorem dX1_washing_75 : decode cX1_washing 75 = .ok (.if_icmp .ge 9, 3) := by decide +kernel
theorem dX1_washing_78 : decode cX1_washing 78 = .ok (.iload_n 2, 1) := by decide +kernel
theorem dX1_washing_79 : decode cX1_washing 79 = .ok (.bipush 6, 2) := by decide +kernel
theorem dX1_washing_81 : decode cX1_washing 81 = .ok (.if_icmp .lt 5, 3) := by decide +kernel
theorem dX1_washing_84 : decode cX1_washing 84 = .ok (.iconst (-1), 1) := by decide +kernel
theorem dX1_washing_85 : decode cX1_washing 85 = .ok (.ireturn, 1) := by decide +kernel
theorem dX1_washing_86 : decode cX1_washing 86 = .ok (.iload_n 1, 1) := by decide +kernel
theorem dX1_washing_87 : decode cX1_washing 87 = .ok (.bipush 8, 2) := by decide +kernel
theorem dX1_washing_89 : decode cX1_washing 89 = .ok (.if_icmp .ge 12, 3) := by decide +kernel
theorem dX1_washing_92 : decode cX1_washing 92 = .ok (.aload_n 0, 1) := by decide +kernel
theorem dX1_washing_93 : decode cX1_washing 93 = .ok (.getfield 24, 3) := by decide +kernel
theorem dX1_washing_96 : decode cX1_washing 96 = .ok (.iload_n 2, 1) := by decide +kernel
theorem dX1_washing_97 : decode cX1_washing 97 = .ok (.iaload, 1) := by decide +kernel
theorem dX1_washing_98 : decode cX1_washing 98 = .ok (.goto 12, 3) := by decide +kernel
theorem dX1_washing_101 : decode cX1_washing 101 = .ok (.aload_n 0, 1) := by decide +kernel
theorem dX1_washing_102 : decode cX1_washing 102 = .ok (.getfield 24, 3) := by decide +kernel
theorem dX1_washing_105 : decode cX1_washing 105 = .ok (.bipush 6, 2) := by decide +kernel
theorem dX1_washing_107 : decode cX1_washing 107 = .ok (.iload_n 2, 1) := by decide +kernel
theorem dX1_washing_108 : decode cX1_washing 108 = .ok (.iadd, 1) := by decide +kernel
theorem dX1_washing_109 : decode cX1_washing 109 = .ok (.iaload, 1) := by decide +kernel
theorem dX1_washing_110 : decode cX1_washing 110 = .ok (.ireturn, 1) := by decide +kernel
set_option maxHeartbeats 4000000 in
set_option maxRecDepth 100000 in
theorem c_X1_washing (l : Launch) (E : Nat → ClassId) (D : va_G) (G : th_G) (h0 : Nat) (hG0 : G h0 = some (11, 0)) (x1 : Int32) : Met l yX1_washing (tb (.code yX1_washing cX1_washing 3 (some .int))) (rm 10) (va_Pc [.ref h0, .int x1] (th_P E D G)) (QI E D G (fun r => True)) 0 0 (th_A G) := by
  refine Met.ofW (cc := cX1_washing) (maxL := 3) (ret := (some .int)) (by decide) rfl ?_
  intro p e s m args below meth c s₁ B hml hv
  obtain ⟨hav, hI, hN, hK⟩ := hv
  have hx := B.exec
  have hb := B.bytes
  have hr := B.returns
  have hts := atoms_spec (ws := tb (.code yX1_washing cX1_washing 3 (some .int))) B.pre
  have hown : s.vm.findClass RX1 = some m.cls := findClass_of_methodNamed B.named
  have hlocks := B.notSynchronized
  have hS : va_S (th_A G) s.heap s.heap [] := va_S.rf
  have hl := lv_entry ([.ref h0, .int x1]) (n := 3) (Nat.le_of_ble_eq_true rfl)
  rw [show entryFrame m args 3 = entryFrame m ([.ref h0, .int x1] : List Value).toArray 3 from by rw [hav], lg_entry_eq]
  generalize (lg_sl ([.ref h0, .int x1]) ++ List.replicate (3 - (lg_sl ([.ref h0, .int x1])).length) Slot.unset).toArray = ls at hl ⊢
  have hl : lv_has ls 3 [(0, .ref h0), (1, .int x1)] := hl
  generalize hR : (headSpec (tb (.code yX1_washing cX1_washing 3 (some .int))) (rm 10)).room = R
  have hR := hR.symm
  generalize hQ : MQ below (QI E D G (fun r => True)) args s 0 0 (th_A G) = QF
  have hQ := hQ.symm
  have J_84 : ∀ (H : Heap) (locs : List Loc) (ls : Array Slot) (v1877 : Int32), lv_has ls 3 [(2, .int v1877), (0, .ref h0), (1, .int x1)] → th_I (okC E) D G [] H → va_S (th_A G) s.heap H locs → W p l e R s m args below meth c H locs 0 0 QF (F0 m 84 ls []) := by
    intro H locs ls v1877 hl  hI hS
    refine lv_iconst (v := (-1)) hx hb dX1_washing_84 (by decide) ?_
    have hpost : True := trivial
    rw [hQ]
    exact W.iret (v := (-1)) hx hb hr (fun t ht hW => ⟨⟨(-1), (), rfl, hpost, by rw [ht]; exact hI, hN.warm hW, va_K.moved hW.alike hK⟩, hS.F ht⟩) hS.2.2 dX1_washing_85
  have J_51 : ∀ (H : Heap) (locs : List Loc) (ls : Array Slot) (v1878 : Int32), lv_has ls 3 [(0, .ref h0), (1, .int x1)] → th_I (okC E) D G [] H → va_S (th_A G) s.heap H locs → W p l e R s m args below meth c H locs 0 0 QF (F0 m 51 ls [.int v1878]) := by
    intro H locs ls v1878 hl  hI hS
    refine lv_istore_n (lv' := [(2, .int v1878), (0, .ref h0), (1, .int x1)]) hx hb dX1_washing_51 rfl hl (by decide) rfl (fun ls hl => ?_)
    refine lv_aload_n hx hb dX1_washing_52 rfl (lv_at hl 1 rfl) ?_
    obtain ⟨a1879, a1881, a1883, a1885, a1887, a1889, a1891, a1893, w1895, w1896, w1897, hO, hq1880, hq1882, hq1884, hq1886, hq1888, hq1890, hq1892, hq1894⟩ := op_11 hI hG0 List.not_mem_nil
    have hI := th_I.weak (a := h0) hI
    refine th_get hx hb hts inT1 hown hK hO rfl 8 (by decide) (hts _ (tb_c wd_244)) rfl rfl dX1_washing_53 ?_
    refine lv_iconst (v := (-1)) hx hb dX1_washing_56 (by decide) ?_
    have k1898 := iv_lo w1895
    have k1899 := iv_hi w1895
    refine lv_icmp_eq (tgt := 84) hx hb dX1_washing_57 (by decide) (fun c1900 => ?_) (fun c1900 => ?_)
    · skip
      have k1901 := iv_eq (X := w1895.toInt) (Y := (-1)) rfl (by decide) c1900
      have hI := th_I.close hI hG0 hO (ok_11 hq1880 hq1882 hq1884 hq1886 hq1888 hq1890 hq1892 hq1894)
      exact J_84 H locs ls v1878 (lv_sub hl [0, 1, 2] rfl)  hI hS
    · skip
      have k1902 := iv_ne (X := w1895.toInt) (Y := (-1)) rfl (by decide) c1900
      refine lv_iload_n hx hb dX1_washing_60 rfl (lv_at hl 0 rfl) ?_
      have k1903 := iv_lo v1878
      have k1904 := iv_hi v1878
      refine lv_if_lt (tgt := 84) hx hb dX1_washing_61 (by decide) (fun c1905 => ?_) (fun c1905 => ?_)
      · skip
        have k1906 := iv_lt (X := v1878.toInt) (Y := (0)) rfl (by decide) c1905
        have hI := th_I.close hI hG0 hO (ok_11 hq1880 hq1882 hq1884 hq1886 hq1888 hq1890 hq1892 hq1894)
        exact J_84 H locs ls v1878 (lv_sub hl [0, 1, 2] rfl)  hI hS
      · skip
        have k1907 := iv_nlt (X := v1878.toInt) (Y := (0)) rfl (by decide) c1905
        refine lv_iload_n hx hb dX1_washing_64 rfl (lv_at hl 0 rfl) ?_
        refine lv_aload_n hx hb dX1_washing_65 rfl (lv_at hl 1 rfl) ?_
        refine th_get hx hb hts inT1 hown hK hO rfl 0 (by decide) (hts _ (tb_c wd_236)) rfl rfl dX1_washing_66 ?_
        have hI := th_I.close hI hG0 hO (ok_11 hq1880 hq1882 hq1884 hq1886 hq1888 hq1890 hq1892 hq1894)
        obtain ⟨a1908, a1910, a1912, a1914, a1916, a1918, a1920, a1922, a1924, a1926, w1928, w1931, w1932, w1933, hO, hq1909, hq1911, hq1913, hq1915, hq1917, hq1919, hq1921, hq1923, hq1925, hq1927, ⟨k1929, k1930⟩⟩ := op_6 hI hq1880 List.not_mem_nil
        have hI := th_I.weak (a := a1879) hI
        refine th_getN hx hb hts inT6 hown hK hN hO rfl 7 (by decide) wn_76 rfl rfl dX1_washing_69 ?_
        have hI := th_I.close hI hq1880 hO (ok_6 hq1909 hq1911 hq1913 hq1915 hq1917 hq1919 hq1921 hq1923 hq1925 hq1927 ⟨by omega, by omega⟩)
        obtain ⟨a1935, w1937, hO, hq1936, ⟨k1938, k1939⟩, k1940⟩ := op_4 hI hq1923 List.not_mem_nil
        have hI := th_I.weak (a := a1922) hI
        have k1941 : (nI 6).toInt = ((6 : Nat) : Int) := nI_toInt (by omega)
        refine th_cVs (As := []) (rest := [.int v1878]) (n := 0) (d := 0) ⟨hx, hb, hml, hown, hts⟩ (c_X4_size l E D H a1922 6 a1935 w1937 hO (by omega) (by omega) (by omega)) wd_920 wd_507 wd_508 wd_3 wd_509 (by decide +kernel) ⟨by rw [hR]; exact Nat.le_of_ble_eq_true rfl, by rw [hR]; exact Nat.le_of_ble_eq_true rfl⟩ hN hK hS ⟨_, hO⟩ rfl rfl hl.1 rfl (Nat.le_of_ble_eq_true rfl) dX1_washing_72 ⟨Nat.zero_le _, Nat.zero_le _⟩ (fun r1934 locs hp hS => ?_)
        have hp := hp.symm
        subst hp
        refine lv_icmp_ge (tgt := 84) hx hb dX1_washing_75 (by decide) (fun c1942 => ?_) (fun c1942 => ?_)
        · skip
          have k1943 := iv_le (X := w1937.toInt) (Y := v1878.toInt) rfl rfl c1942
          have hI := th_I.close hI hq1923 hO (ok_4 hq1936 ⟨by omega, by omega⟩ (by omega))
          exact J_84 H locs ls v1878 (lv_sub hl [0, 1, 2] rfl)  hI hS
        · skip
          have k1944 := iv_nle (X := w1937.toInt) (Y := v1878.toInt) rfl rfl c1942
          refine lv_iload_n hx hb dX1_washing_78 rfl (lv_at hl 0 rfl) ?_
          refine lv_bipush (v := 6) hx hb dX1_washing_79 (by decide) ?_
          refine lv_icmp_lt (tgt := 86) hx hb dX1_washing_81 (by decide) (fun c1945 => ?_) (fun c1945 => ?_)
          · skip
            have k1946 := iv_lt (X := v1878.toInt) (Y := (6)) rfl (by decide) c1945
            refine lv_iload_n hx hb dX1_washing_86 rfl (lv_at hl 2 rfl) ?_
            refine lv_bipush (v := 8) hx hb dX1_washing_87 (by decide) ?_
            have k1947 := iv_lo x1
            have k1948 := iv_hi x1
            refine lv_icmp_ge (tgt := 101) hx hb dX1_washing_89 (by decide) (fun c1949 => ?_) (fun c1949 => ?_)
            · skip
              have k1950 := iv_le (X := (8)) (Y := x1.toInt) (by decide) rfl c1949
              refine lv_aload_n hx hb dX1_washing_101 rfl (lv_at hl 1 rfl) ?_
              have hI := th_I.close hI hq1923 hO (ok_4 hq1936 ⟨by omega, by omega⟩ (by omega))
              obtain ⟨a1951, a1953, a1955, a1957, a1959, a1961, a1963, a1965, w1967, w1968, w1969, hO, hq1952, hq1954, hq1956, hq1958, hq1960, hq1962, hq1964, hq1966⟩ := op_11 hI hG0 List.not_mem_nil
              have hI := th_I.weak (a := h0) hI
              refine th_get hx hb hts inT1 hown hK hO rfl 7 (by decide) (hts _ (tb_c wd_243)) rfl rfl dX1_washing_102 ?_
              refine lv_bipush (v := 6) hx hb dX1_washing_105 (by decide) ?_
              refine lv_iload_n hx hb dX1_washing_107 rfl (lv_at hl 0 rfl) ?_
              refine lv_iadd hx hb dX1_washing_108 ?_
              refine lv_topi (fun v1970 e1971 => ?_)
              have tv1970 : v1970.toInt = (6) + v1878.toInt := iv_add (by decide) rfl e1971 (by omega) (by omega)
              obtain ⟨_, hA1972⟩ := op_0 hI hq1966 (th_ne hG0 hq1966 (show (11 : Nat) ≠ 0 by decide))
              refine th_iald hx hb hK hA1972 0 rfl (iv_in (X := v1970.toInt) rfl (by omega) (by omega)) dX1_washing_109 (fun v1973 _ => ?_)
              have hI := th_I.close hI hG0 hO (ok_11 hq1952 hq1954 hq1956 hq1958 hq1960 hq1962 hq1964 hq1966)
              have hpost : True := trivial
              rw [hQ]
              exact W.iret (v := v1973) hx hb hr (fun t ht hW => ⟨⟨v1973, (), rfl, hpost, by rw [ht]; exact hI, hN.warm hW, va_K.moved hW.alike hK⟩, hS.F ht⟩) hS.2.2 dX1_washing_110
            · skip
              have k1974 := iv_nle (X := (8)) (Y := x1.toInt) (by decide) rfl c1949
              refine lv_aload_n hx hb dX1_washing_92 rfl (lv_at hl 1 rfl) ?_
              have hI := th_I.close hI hq1923 hO (ok_4 hq1936 ⟨by omega, by omega⟩ (by omega))
              obtain ⟨a1975, a1977, a1979, a1981, a1983, a1985, a1987, a1989, w1991, w1992, w1993, hO, hq1976, hq1978, hq1980, hq1982, hq1984, hq1986, hq1988, hq1990⟩ := op_11 hI hG0 List.not_mem_nil
              have hI := th_I.weak (a := h0) hI
              refine th_get hx hb hts inT1 hown hK hO rfl 7 (by decide) (hts _ (tb_c wd_243)) rfl rfl dX1_washing_93 ?_
              refine lv_iload_n hx hb dX1_washing_96 rfl (lv_at hl 0 rfl) ?_
              obtain ⟨_, hA1994⟩ := op_0 hI hq1990 (th_ne hG0 hq1990 (show (11 : Nat) ≠ 0 by decide))
              refine th_iald hx hb hK hA1994 0 rfl (iv_in (X := v1878.toInt) rfl (by omega) (by omega)) dX1_washing_97 (fun v1995 _ => ?_)
              refine lv_goto (tgt := 110) hx hb dX1_washing_98 (by decide) ?_
              have hI := th_I.close hI hG0 hO (ok_11 hq1976 hq1978 hq1980 hq1982 hq1984 hq1986 hq1988 hq1990)
              have hpost : True := trivial
              rw [hQ]
              exact W.iret (v := v1995) hx hb hr (fun t ht hW => ⟨⟨v1995, (), rfl, hpost, by rw [ht]; exact hI, hN.warm hW, va_K.moved hW.alike hK⟩, hS.F ht⟩) hS.2.2 dX1_washing_110
          · skip
            have k1996 := iv_nlt (X := v1878.toInt) (Y := (6)) rfl (by decide) c1945
            exfalso; omega
  have J_16 : ∀ (H : Heap) (locs : List Loc) (ls : Array Slot) , lv_has ls 3 [(0, .ref h0), (1, .int x1)] → th_I (okC E) D G [] H → va_S (th_A G) s.heap H locs → W p l e R s m args below meth c H locs 0 0 QF (F0 m 16 ls []) := by
    intro H locs ls  hl  hI hS
    refine lv_iload_n hx hb dX1_washing_16 rfl (lv_at hl 1 rfl) ?_
    have k1997 := iv_lo x1
    have k1998 := iv_hi x1
    refine lv_if_ne (tgt := 25) hx hb dX1_washing_17 (by decide) (fun c1999 => ?_) (fun c1999 => ?_)
    · skip
      have k2000 := iv_ne (X := x1.toInt) (Y := (0)) rfl (by decide) c1999
      refine lv_iload_n hx hb dX1_washing_25 rfl (lv_at hl 1 rfl) ?_
      refine lv_iconst (v := 1) hx hb dX1_washing_26 (by decide) ?_
      refine lv_icmp_ne (tgt := 35) hx hb dX1_washing_27 (by decide) (fun c2001 => ?_) (fun c2001 => ?_)
      · skip
        have k2002 := iv_ne (X := x1.toInt) (Y := (1)) rfl (by decide) c2001
        refine lv_iload_n hx hb dX1_washing_35 rfl (lv_at hl 1 rfl) ?_
        refine lv_bipush (v := 8) hx hb dX1_washing_36 (by decide) ?_
        refine lv_icmp_ge (tgt := 47) hx hb dX1_washing_38 (by decide) (fun c2003 => ?_) (fun c2003 => ?_)
        · skip
          have k2004 := iv_le (X := (8)) (Y := x1.toInt) (by decide) rfl c2003
          refine lv_iload_n hx hb dX1_washing_47 rfl (lv_at hl 1 rfl) ?_
          refine lv_bipush (v := 8) hx hb dX1_washing_48 (by decide) ?_
          refine lv_isub hx hb dX1_washing_50 ?_
          refine lv_topi (fun v2005 e2006 => ?_)
          have tv2005 : v2005.toInt = x1.toInt - (8) := iv_sub rfl (by decide) e2006 (by omega) (by omega)
          exact J_51 H locs ls v2005 (lv_sub hl [0, 1] rfl)  hI hS
        · skip
          have k2007 := iv_nle (X := (8)) (Y := x1.toInt) (by decide) rfl c2003
          refine lv_iload_n hx hb dX1_washing_41 rfl (lv_at hl 1 rfl) ?_
          refine lv_iconst (v := 2) hx hb dX1_washing_42 (by decide) ?_
          refine lv_isub hx hb dX1_washing_43 ?_
          refine lv_topi (fun v2008 e2009 => ?_)
          try have tv2008 : v2008.toInt = x1.toInt - (2) := iv_sub rfl (by decide) e2009 (by omega) (by omega)
          refine lv_goto (tgt := 51) hx hb dX1_washing_44 (by decide) ?_
          exact J_51 H locs ls v2008 (lv_sub hl [0, 1] rfl)  hI hS
      · skip
        have k2010 := iv_eq (X := x1.toInt) (Y := (1)) rfl (by decide) c2001
        refine lv_aload_n hx hb dX1_washing_30 rfl (lv_at hl 0 rfl) ?_
        obtain ⟨a2011, a2013, a2015, a2017, a2019, a2021, a2023, a2025, w2027, w2028, w2029, hO, hq2012, hq2014, hq2016, hq2018, hq2020, hq2022, hq2024, hq2026⟩ := op_11 hI hG0 List.not_mem_nil
        have hI := th_I.weak (a := h0) hI
        refine th_get hx hb hts inT1 hown hK hO rfl 9 (by decide) (hts _ (tb_c wd_245)) rfl rfl dX1_washing_31 ?_
        have hI := th_I.close hI hG0 hO (ok_11 hq2012 hq2014 hq2016 hq2018 hq2020 hq2022 hq2024 hq2026)
        have hpost : True := trivial
        rw [hQ]
        exact W.iret (v := w2028) hx hb hr (fun t ht hW => ⟨⟨w2028, (), rfl, hpost, by rw [ht]; exact hI, hN.warm hW, va_K.moved hW.alike hK⟩, hS.F ht⟩) hS.2.2 dX1_washing_34
    · skip
      have k2030 := iv_eq (X := x1.toInt) (Y := (0)) rfl (by decide) c1999
      refine lv_aload_n hx hb dX1_washing_20 rfl (lv_at hl 0 rfl) ?_
      obtain ⟨a2031, a2033, a2035, a2037, a2039, a2041, a2043, a2045, w2047, w2048, w2049, hO, hq2032, hq2034, hq2036, hq2038, hq2040, hq2042, hq2044, hq2046⟩ := op_11 hI hG0 List.not_mem_nil
      have hI := th_I.weak (a := h0) hI
      refine th_get hx hb hts inT1 hown hK hO rfl 8 (by decide) (hts _ (tb_c wd_244)) rfl rfl dX1_washing_21 ?_
      have hI := th_I.close hI hG0 hO (ok_11 hq2032 hq2034 hq2036 hq2038 hq2040 hq2042 hq2044 hq2046)
      have hpost : True := trivial
      rw [hQ]
      exact W.iret (v := w2047) hx hb hr (fun t ht hW => ⟨⟨w2047, (), rfl, hpost, by rw [ht]; exact hI, hN.warm hW, va_K.moved hW.alike hK⟩, hS.F ht⟩) hS.2.2 dX1_washing_24
  refine lv_aload_n hx hb dX1_washing_0 rfl (lv_at hl 0 rfl) ?_
  obtain ⟨a2050, a2052, a2054, a2056, a2058, a2060, a2062, a2064, w2066, w2067, w2068, hO, hq2051, hq2053, hq2055, hq2057, hq2059, hq2061, hq2063, hq2065⟩ := op_11 hI hG0 List.not_mem_nil
  have hI := th_I.weak (a := h0) hI
  refine th_get hx hb hts inT1 hown hK hO rfl 10 (by decide) (hts _ (tb_c wd_246)) rfl rfl dX1_washing_1 ?_
  have k2069 := iv_lo w2068
  have k2070 := iv_hi w2068
  refine lv_if_eq (tgt := 16) hx hb dX1_washing_4 (by decide) (fun c2071 => ?_) (fun c2071 => ?_)
  · skip
    have k2072 := iv_eq (X := w2068.toInt) (Y := (0)) rfl (by decide) c2071
    have hI := th_I.close hI hG0 hO (ok_11 hq2051 hq2053 hq2055 hq2057 hq2059 hq2061 hq2063 hq2065)
    exact J_16 s.heap [] ls  (lv_sub hl [0, 1] rfl)  hI hS
  · skip
    have k2073 := iv_ne (X := w2068.toInt) (Y := (0)) rfl (by decide) c2071
    refine lv_aload_n hx hb dX1_washing_7 rfl (lv_at hl 0 rfl) ?_
    have hI := th_I.close hI hG0 hO (ok_11 hq2051 hq2053 hq2055 hq2057 hq2059 hq2061 hq2063 hq2065)
    refine th_cVv (As := []) (rest := []) (n := 0) (d := 9) ⟨hx, hb, hml, hown, hts⟩ (c_X1_wash l E D G h0 hG0 ) wd_1058 wd_1060 wp_31 wd_9 wd_1061 (by decide +kernel) ⟨by rw [hR]; exact Nat.le_of_ble_eq_true rfl, by rw [hR]; exact Nat.le_of_ble_eq_true rfl⟩ hI hN hK hS (rc_11 hI hG0 List.not_mem_nil) rfl rfl hl.1 rfl (Nat.le_of_ble_eq_true rfl) dX1_washing_8 ⟨Nat.zero_le _, Nat.zero_le _⟩ (fun H locs hI hS => ?_)
    refine lv_aload_n hx hb dX1_washing_11 rfl (lv_at hl 0 rfl) ?_
    refine lv_iconst (v := 0) hx hb dX1_washing_12 (by decide) ?_
    obtain ⟨a2075, a2077, a2079, a2081, a2083, a2085, a2087, a2089, w2091, w2092, w2093, hO, hq2076, hq2078, hq2080, hq2082, hq2084, hq2086, hq2088, hq2090⟩ := op_11 hI hG0 List.not_mem_nil
    have hI := th_I.weak (a := h0) hI
    refine th_put (ty := .boolean) hx hb hts inT1 tyX1 tyX1_ok nmX1 hown hK hO hS ⟨_, hG0⟩ rfl 10 (by decide) (hts _ (tb_c wd_246)) rfl rfl (by decide +kernel) (by decide) rfl (Nat.le_of_ble_eq_true rfl) dX1_washing_13 (fun H locs hO oq hS => ?_)
    have hI := th_I.moved hI oq
    have hO : va_at D vwCl (h0, .inr (1, [.ref a2075, .ref a2077, .ref a2079, .ref a2081, .ref a2083, .ref a2085, .ref a2087, .ref a2089, .int w2091, .int w2092, .int 0])) H := hO
    have hI := th_I.close hI hG0 hO (ok_11 hq2076 hq2078 hq2080 hq2082 hq2084 hq2086 hq2088 hq2090)
    exact J_16 H locs ls  (lv_sub hl [0, 1] rfl)  hI hS
theorem dX11_laundry_0 : decode cX11_laundry 0 = .ok (.iload_n 1, 1) := by decide +kernel
theorem dX11_laundry_1 : decode cX11_laundry 1 = .ok (.ifCond .lt 9, 3) := by decide +kernel
theorem dX11_laundry_4 : decode cX11_laundry 4 = .ok (.iload_n 1, 1) := by decide +kernel
theorem dX11_laundry_5 : decode cX11_laundry 5 = .ok (.bipush 13, 2) := by decide +kernel
theorem dX11_laundry_7 : decode cX11_laundry 7 = .ok (.if_icmp .le 7, 3) := by decide +kernel
theorem dX11_laundry_10 : decode cX11_laundry 10 = .ok (.iconst (-1), 1) := by decide +kernel
theorem dX11_laundry_11 : decode cX11_laundry 11 = .ok (.goto 11, 3) := by decide +kernel
theorem dX11_laundry_14 : decode cX11_laundry 14 = .ok (.aload_n 0, 1) := by decide +kernel
theorem dX11_laundry_15 : decode cX11_laundry 15 = .ok (.getfield 60, 3) := by decide +kernel
theorem dX11_laundry_18 : decode cX11_laundry 18 = .ok (.iload_n 1, 1) := by decide +kernel
theorem dX11_laundry_19 : decode cX11_laundry 19 = .ok (.invokevirtual 310, 3) := by decide +kernel
theorem dX11_laundry_22 : decode cX11_laundry 22 = .ok (.ireturn, 1) := by decide +kernel
set_option maxHeartbeats 4000000 in
set_option maxRecDepth 100000 in
theorem c_X11_laundry (l : Launch) (E : Nat → ClassId) (D : va_G) (G : th_G) (h0 n : Nat) (hG0 : G h0 = some (15, n)) (x1 : Int32) : Met l yX11_laundry (tb (.code yX11_laundry cX11_laundry 2 (some .int))) (rm 11) (va_Pc [.ref h0, .int x1] (th_P E D G)) (QI E D G (fun r => True)) 0 0 (th_A G) := by
  refine Met.ofW (cc := cX11_laundry) (maxL := 2) (ret := (some .int)) (by decide) rfl ?_
  intro p e s m args below meth c s₁ B hml hv
  obtain ⟨hav, hI, hN, hK⟩ := hv
  have hx := B.exec
  have hb := B.bytes
  have hr := B.returns
  have hts := atoms_spec (ws := tb (.code yX11_laundry cX11_laundry 2 (some .int))) B.pre
  have hown : s.vm.findClass RX11 = some m.cls := findClass_of_methodNamed B.named
  have hlocks := B.notSynchronized
  have hS : va_S (th_A G) s.heap s.heap [] := va_S.rf
  have hl := lv_entry ([.ref h0, .int x1]) (n := 2) (Nat.le_of_ble_eq_true rfl)
  rw [show entryFrame m args 2 = entryFrame m ([.ref h0, .int x1] : List Value).toArray 2 from by rw [hav], lg_entry_eq]
  generalize (lg_sl ([.ref h0, .int x1]) ++ List.replicate (2 - (lg_sl ([.ref h0, .int x1])).length) Slot.unset).toArray = ls at hl ⊢
  have hl : lv_has ls 2 [(0, .ref h0), (1, .int x1)] := hl
  generalize hR : (headSpec (tb (.code yX11_laundry cX11_laundry 2 (some .int))) (rm 11)).room = R
  have hR := hR.symm
  generalize hQ : MQ below (QI E D G (fun r => True)) args s 0 0 (th_A G) = QF
  have hQ := hQ.symm
  refine lv_iload_n hx hb dX11_laundry_0 rfl (lv_at hl 1 rfl) ?_
  have k1 := iv_lo x1
  have k2 := iv_hi x1
  refine lv_if_lt (tgt := 10) hx hb dX11_laundry_1 (by decide) (fun c3 => ?_) (fun c3 => ?_)
  · skip
    have k4 := iv_lt (X := x1.toInt) (Y := (0)) rfl (by decide) c3
    refine lv_iconst (v := (-1)) hx hb dX11_laundry_10 (by decide) ?_
    refine lv_goto (tgt := 22) hx hb dX11_laundry_11 (by decide) ?_
    have hpost : True := trivial
    rw [hQ]
    exact W.iret (v := (-1)) hx hb hr (fun t ht hW => ⟨⟨(-1), (), rfl, hpost, by rw [ht]; exact hI, hN.warm hW, va_K.moved hW.alike hK⟩, hS.F ht⟩) hS.2.2 dX11_laundry_22
  · skip
    have k5 := iv_nlt (X := x1.toInt) (Y := (0)) rfl (by decide) c3
    refine lv_iload_n hx hb dX11_laundry_4 rfl (lv_at hl 1 rfl) ?_
    refine lv_bipush (v := 13) hx hb dX11_laundry_5 (by decide) ?_
    refine lv_icmp_le (tgt := 14) hx hb dX11_laundry_7 (by decide) (fun c6 => ?_) (fun c6 => ?_)
    · skip
      have k7 := iv_le (X := x1.toInt) (Y := (13)) rfl (by decide) c6
      refine lv_aload_n hx hb dX11_laundry_14 rfl (lv_at hl 0 rfl) ?_
      obtain ⟨a8, a11, a13, a15, a17, a19, a21, a23, a25, a27, a29, w31, w32, w33, w34, hO, hq9, hq10, hq12, hq14, hq16, hq18, hq20, hq22, hq24, hq26, hq28, hq30⟩ := op_15 hI hG0 List.not_mem_nil
      have hI := th_I.weak (a := h0) hI
      have k35 : (nI (n % 401)).toInt = ((n % 401 : Nat) : Int) := nI_toInt (by omega)
      refine th_get hx hb hts inT11 hown hK hO rfl 8 (by decide) (hts _ (tb_c wd_353)) rfl rfl dX11_laundry_15 ?_
      refine lv_iload_n hx hb dX11_laundry_18 rfl (lv_at hl 1 rfl) ?_
      have hI := th_I.close hI hG0 hO (ok_15 hq9 hq10 hq12 hq14 hq16 hq18 hq20 hq22 hq24 hq26 hq28 hq30)
      refine th_cVi (As := [.int x1]) (rest := []) (n := 1) (d := 10) ⟨hx, hb, hml, hown, hts⟩ (c_X1_washing l E D G a23 hq24 x1) wd_1054 wd_1055 wd_1056 wd_9 wd_1057 (by decide +kernel) ⟨by rw [hR]; exact Nat.le_of_ble_eq_true rfl, by rw [hR]; exact Nat.le_of_ble_eq_true rfl⟩ hI hN hK hS (rc_11 hI hq24 List.not_mem_nil) rfl rfl hl.1 rfl (Nat.le_of_ble_eq_true rfl) dX11_laundry_19 ⟨Nat.zero_le _, Nat.zero_le _⟩ (fun r36 H locs hp hI hS => ?_)
      have hpost : True := trivial
      rw [hQ]
      exact W.iret (v := r36) hx hb hr (fun t ht hW => ⟨⟨r36, (), rfl, hpost, by rw [ht]; exact hI, hN.warm hW, va_K.moved hW.alike hK⟩, hS.F ht⟩) hS.2.2 dX11_laundry_22
    · skip
      have k37 := iv_nle (X := x1.toInt) (Y := (13)) rfl (by decide) c6
      refine lv_iconst (v := (-1)) hx hb dX11_laundry_10 (by decide) ?_
      refine lv_goto (tgt := 22) hx hb dX11_laundry_11 (by decide) ?_
      have hpost : True := trivial
      rw [hQ]
      exact W.iret (v := (-1)) hx hb hr (fun t ht hW => ⟨⟨(-1), (), rfl, hpost, by rw [ht]; exact hI, hN.warm hW, va_K.moved hW.alike hK⟩, hS.F ht⟩) hS.2.2 dX11_laundry_22
