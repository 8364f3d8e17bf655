theorem wn_534 : (Cond.methodLinkNest RX7 (43 : Nat) yX11_isCell "NineRiver") ∈ lw_tbl := List.mem_append_right _ (List.mem_of_getElem? (i := 534) (by decide +kernel))
theorem wn_535 : (Cond.methodLinkNest RX7 (47 : Nat) yX11_isHour "NineRiver") ∈ lw_tbl := List.mem_append_right _ (List.mem_of_getElem? (i := 535) (by decide +kernel))
theorem wn_62 : (Cond.fieldLinkNest RX7 (126 : Nat) "NineRiver$State" "gates" "LNineRiver$Rows;" "NineRiver") ∈ lw_tbl := List.mem_append_right _ (List.mem_of_getElem? (i := 62) (by decide +kernel))
theorem wn_65 : (Cond.fieldLinkNest RX7 (139 : Nat) "NineRiver$State" "mills" "LNineRiver$Rows;" "NineRiver") ∈ lw_tbl := List.mem_append_right _ (List.mem_of_getElem? (i := 65) (by decide +kernel))
theorem wd_15 : (Cond.initialized RJ7) ∈ TB := tw 15 (by decide +kernel) (by decide +kernel)
theorem wd_189 : (Cond.fieldLink RX7 (35 : Nat) "NineRiver$Stream" "state" "LNineRiver$State;") ∈ TB := tw 189 (by decide +kernel) (by decide +kernel)
theorem wd_191 : (Cond.fieldLink RX7 (18 : Nat) "NineRiver$Stream" "ways" "[I") ∈ TB := tw 191 (by decide +kernel) (by decide +kernel)
theorem wd_192 : (Cond.fieldLink RX7 (22 : Nat) "NineRiver$Stream" "prices" "[I") ∈ TB := tw 192 (by decide +kernel) (by decide +kernel)
theorem wd_193 : (Cond.fieldLink RX7 (25 : Nat) "NineRiver$Stream" "shutGates" "[I") ∈ TB := tw 193 (by decide +kernel) (by decide +kernel)
theorem wd_194 : (Cond.fieldLink RX7 (28 : Nat) "NineRiver$Stream" "millsAt" "[I") ∈ TB := tw 194 (by decide +kernel) (by decide +kernel)
theorem wd_507 : (Jvm.Cond.instanceMethod yX4_size) ∈ TB := tw 507 (by decide +kernel) (by decide +kernel)
theorem wd_508 : (Cond.selects RX4 yX4_size yX4_size) ∈ TB := tw 508 (by decide +kernel) (by decide +kernel)
theorem wd_509 : (Cond.code yX4_size cX4_size 1 (Option.some Jvm.ClassFile.FieldType.int)) ∈ TB := tw 509 (by decide +kernel) (by decide +kernel)
theorem wd_519 : (Jvm.Cond.instanceMethod yX4_at) ∈ TB := tw 519 (by decide +kernel) (by decide +kernel)
theorem wd_520 : (Cond.selects RX4 yX4_at yX4_at) ∈ TB := tw 520 (by decide +kernel) (by decide +kernel)
theorem wd_521 : (Cond.code yX4_at cX4_at 3 (Option.some Jvm.ClassFile.FieldType.int)) ∈ TB := tw 521 (by decide +kernel) (by decide +kernel)
theorem wd_540 : (Cond.methodLink RX7 (120 : Nat) yJ7_fill_53178) ∈ TB := tw 540 (by decide +kernel) (by decide +kernel)
theorem wd_541 : (Jvm.Cond.static yJ7_fill_53178) ∈ TB := tw 541 (by decide +kernel) (by decide +kernel)
theorem wd_542 : (Cond.code yJ7_fill_53178 cJ7_fill_53178 4 (Option.none : Option Jvm.ClassFile.FieldType)) ∈ TB := tw 542 (by decide +kernel) (by decide +kernel)
theorem wd_543 : (Cond.methodLink RX7 (130 : Nat) yX4_size) ∈ TB := tw 543 (by decide +kernel) (by decide +kernel)
theorem wd_544 : (Cond.methodLink RX7 (136 : Nat) yX4_at) ∈ TB := tw 544 (by decide +kernel) (by decide +kernel)
theorem dJ7_fill_53178_0 : decode cJ7_fill_53178 0 = .ok (.iconst 0, 1) := by decide +kernel
theorem dJ7_fill_53178_1 : decode cJ7_fill_53178 1 = .ok (.istore_n 2, 1) := by decide +kernel
theorem dJ7_fill_53178_2 : decode cJ7_fill_53178 2 = .ok (.aload_n 0, 1) := by decide +kernel
theorem dJ7_fill_53178_3 : decode cJ7_fill_53178 3 = .ok (.arraylength, 1) := by decide +kernel
theorem dJ7_fill_53178_4 : decode cJ7_fill_53178 4 = .ok (.istore_n 3, 1) := by decide +kernel
theorem dJ7_fill_53178_5 : decode cJ7_fill_53178 5 = .ok (.iload_n 2, 1) := by decide +kernel
theorem dJ7_fill_53178_6 : decode cJ7_fill_53178 6 = .ok (.iload_n 3, 1) := by decide +kernel
theorem dJ7_fill_53178_7 : decode cJ7_fill_53178 7 = .ok (.if_icmp .ge 13, 3) := by decide +kernel
theorem dJ7_fill_53178_10 : decode cJ7_fill_53178 10 = .ok (.aload_n 0, 1) := by decide +kernel
theorem dJ7_fill_53178_11 : decode cJ7_fill_53178 11 = .ok (.iload_n 2, 1) := by decide +kernel
theorem dJ7_fill_53178_12 : decode cJ7_fill_53178 12 = .ok (.iload_n 1, 1) := by decide +kernel
theorem dJ7_fill_53178_13 : decode cJ7_fill_53178 13 = .ok (.iastore, 1) := by decide +kernel
theorem dJ7_fill_53178_14 : decode cJ7_fill_53178 14 = .ok (.iinc 2 1, 3) := by decide +kernel
theorem dJ7_fill_53178_17 : decode cJ7_fill_53178 17 = .ok (.goto (-12), 3) := by decide +kernel
theorem dJ7_fill_53178_20 : decode cJ7_fill_53178 20 = .ok (.return_, 1) := by decide +kernel
set_option maxHeartbeats 4000000 in
set_option maxRecDepth 100000 in
theorem c_J7_fill_53178 (l : Launch) (E : Nat → ClassId) (D : va_G) (G : th_G) (h0 n : Nat) (hG0 : G h0 = some (0, n)) (hn : n < 2147483648) (x1 : Int32) : Met l yJ7_fill_53178 (tb (.code yJ7_fill_53178 cJ7_fill_53178 4 none)) (rm 0) (va_Pc [.ref h0, .int x1] (th_P E D G)) (QV E D G) 0 0 (th_A G) := by
  refine Met.ofW (cc := cJ7_fill_53178) (maxL := 4) (ret := none) (by decide) rfl ?_
  intro p e s m args below meth c s₁ B hml hv
  obtain ⟨hav, hI, hN, hK⟩ := hv
  have hx := B.exec
  have hb := B.bytes
  have hr := B.returns
  have hts := atoms_spec (ws := tb (.code yJ7_fill_53178 cJ7_fill_53178 4 none)) B.pre
  have hown : s.vm.findClass RJ7 = some m.cls := findClass_of_methodNamed B.named
  have hlocks := B.notSynchronized
  have hS : va_S (th_A G) s.heap s.heap [] := va_S.rf
  have hl := lv_entry ([.ref h0, .int x1]) (n := 4) (Nat.le_of_ble_eq_true rfl)
  rw [show entryFrame m args 4 = entryFrame m ([.ref h0, .int x1] : List Value).toArray 4 from by rw [hav], lg_entry_eq]
  generalize (lg_sl ([.ref h0, .int x1]) ++ List.replicate (4 - (lg_sl ([.ref h0, .int x1])).length) Slot.unset).toArray = ls at hl ⊢
  have hl : lv_has ls 4 [(0, .ref h0), (1, .int x1)] := hl
  generalize hR : (headSpec (tb (.code yJ7_fill_53178 cJ7_fill_53178 4 none)) (rm 0)).room = R
  have hR := hR.symm
  generalize hQ : MQ below (QV E D G) args s 0 0 (th_A G) = QF
  have hQ := hQ.symm
  have J_5 : ∀ (nn : Nat) (H : Heap) (locs : List Loc) (ls : Array Slot) (v433 : Int32) (v434 : Int32), (Int.toNat (v433.toInt - v434.toInt) = nn) → lv_has ls 4 [(3, .int v433), (2, .int v434), (0, .ref h0), (1, .int x1)] → ((0 : Int) ≤ v433.toInt) → ((0 : Int) ≤ v434.toInt) → (v433.toInt = ((n : Nat) : Int)) → th_I (okC E) D G [] H → va_S (th_A G) s.heap H locs → W p l e R s m args below meth c H locs 0 0 QF (F0 m 5 ls []) := by
    intro nn
    induction nn using Nat.strongRecOn with
    | ind nn ih_5 =>
      intro H locs ls v433 v434 hm hl k435 k436 k437 hI hS
      refine lv_iload_n hx hb dJ7_fill_53178_5 rfl (lv_at hl 1 rfl) ?_
      refine lv_iload_n hx hb dJ7_fill_53178_6 rfl (lv_at hl 0 rfl) ?_
      have k438 := iv_lo v434
      have k439 := iv_hi v434
      have k440 := iv_lo v433
      have k441 := iv_hi v433
      refine lv_icmp_ge (tgt := 20) hx hb dJ7_fill_53178_7 (by decide) (fun c442 => ?_) (fun c442 => ?_)
      · skip
        have k443 := iv_le (X := v433.toInt) (Y := v434.toInt) rfl rfl c442
        rw [hQ]
        exact W.vret hx hb hr (fun t ht hW => ⟨⟨(), rfl, trivial, by rw [ht]; exact hI, hN.warm hW, va_K.moved hW.alike hK⟩, hS.F ht⟩) hS.2.2 dJ7_fill_53178_20
      · skip
        have k444 := iv_nle (X := v433.toInt) (Y := v434.toInt) rfl rfl c442
        refine lv_aload_n hx hb dJ7_fill_53178_10 rfl (lv_at hl 2 rfl) ?_
        refine lv_iload_n hx hb dJ7_fill_53178_11 rfl (lv_at hl 1 rfl) ?_
        refine lv_iload_n hx hb dJ7_fill_53178_12 rfl (lv_at hl 3 rfl) ?_
        obtain ⟨_, hA445⟩ := op_0 hI hG0 List.not_mem_nil
        refine th_iast hx hb hK hA445 0 rfl hS ⟨_, hG0⟩ (iv_in (X := v434.toInt) rfl (by omega) (by omega)) dJ7_fill_53178_13 (fun H locs hA445 oq hS => ?_)
        have hI := th_I.put hI hG0 hA445 ok_0 oq
        obtain ⟨v446, e447⟩ : ∃ y : Int32, y = v434 + (1) := ⟨_, rfl⟩
        have tv446 : v446.toInt = v434.toInt + (1) := iv_add rfl (by decide) e447 (by omega) (by omega)
        refine lv_iinc (v := v446) (lv' := [(2, .int v446), (3, .int v433), (0, .ref h0), (1, .int x1)]) hx hb dJ7_fill_53178_14 hl (k := 1) rfl (by rw [e447]; rfl) (by decide) rfl (fun ls hl => ?_)
        refine lv_goto (tgt := 5) hx hb dJ7_fill_53178_17 (by decide) ?_
        exact ih_5 _ (by omega) H locs ls v433 v446 rfl (lv_sub hl [1, 0, 2, 3] rfl) (by omega) (by omega) (by omega) hI hS
  refine lv_iconst (v := 0) hx hb dJ7_fill_53178_0 (by decide) ?_
  refine lv_istore_n (lv' := [(2, .int 0), (0, .ref h0), (1, .int x1)]) hx hb dJ7_fill_53178_1 rfl hl (by decide) rfl (fun ls hl => ?_)
  refine lv_aload_n hx hb dJ7_fill_53178_2 rfl (lv_at hl 1 rfl) ?_
  obtain ⟨_, hA448⟩ := op_0 hI hG0 List.not_mem_nil
  refine va_alen hx hb hK (th_one hA448) 0 0 rfl (v := nI (n)) rfl rfl dJ7_fill_53178_3 ?_
  refine lv_topi (fun v449 e450 => ?_)
  have tv449 : v449.toInt = ((n : Nat) : Int) := by rw [e450]; exact nI_toInt (by omega)
  refine lv_istore_n (lv' := [(3, .int v449), (2, .int 0), (0, .ref h0), (1, .int x1)]) hx hb dJ7_fill_53178_4 rfl hl (by decide) rfl (fun ls hl => ?_)
  have zl : (0 : Int32).toInt = 0 := by decide
  exact J_5 _ s.heap [] ls v449 0 rfl (lv_sub hl [0, 1, 2, 3] rfl) (by omega) (by decide) (by omega) hI hS
theorem dX7_refresh_0 : decode cX7_refresh 0 = .ok (.aload_n 0, 1) := by decide +kernel
theorem dX7_refresh_1 : decode cX7_refresh 1 = .ok (.getfield 31, 3) := by decide +kernel
theorem dX7_refresh_4 : decode cX7_refresh 4 = .ok (.ifCond .ne 4, 3) := by decide +kernel
theorem dX7_refresh_7 : decode cX7_refresh 7 = .ok (.return_, 1) := by decide +kernel
theorem dX7_refresh_8 : decode cX7_refresh 8 = .ok (.aload_n 0, 1) := by decide +kernel
theorem dX7_refresh_9 : decode cX7_refresh 9 = .ok (.iconst 0, 1) := by decide +kernel
theorem dX7_refresh_10 : decode cX7_refresh 10 = .ok (.putfield 31, 3) := by decide +kernel
theorem dX7_refresh_13 : decode cX7_refresh 13 = .ok (.aload_n 0, 1) := by decide +kernel
theorem dX7_refresh_14 : decode cX7_refresh 14 = .ok (.getfield 18, 3) := by decide +kernel
theorem dX7_refresh_17 : decode cX7_refresh 17 = .ok (.iconst 0, 1) := by decide +kernel
theorem dX7_refresh_18 : decode cX7_refresh 18 = .ok (.invokestatic 120, 3) := by decide +kernel
theorem dX7_refresh_21 : decode cX7_refresh 21 = .ok (.aload_n 0, 1) := by decide +kernel
theorem dX7_refresh_22 : decode cX7_refresh 22 = .ok (.getfield 22, 3) := by decide +kernel
theorem dX7_refresh_25 : decode cX7_refresh 25 = .ok (.iconst 0, 1) := by decide +kernel
theorem dX7_refresh_26 : decode cX7_refresh 26 = .ok (.invokestatic 120, 3) := by decide +kernel
theorem dX7_refresh_29 : decode cX7_refresh 29 = .ok (.aload_n 0, 1) := by decide +kernel
theorem dX7_refresh_30 : decode cX7_refresh 30 = .ok (.getfield 25, 3) := by decide +kernel
theorem dX7_refresh_33 : decode cX7_refresh 33 = .ok (.iconst 0, 1) := by decide +kernel
theorem dX7_refresh_34 : decode cX7_refresh 34 = .ok (.invokestatic 120, 3) := by decide +kernel
theorem dX7_refresh_37 : decode cX7_refresh 37 = .ok (.aload_n 0, 1) := by decide +kernel
theorem dX7_refresh_38 : decode cX7_refresh 38 = .ok (.getfield 28, 3) := by decide +kernel
theorem dX7_refresh_41 : decode cX7_refresh 41 = .ok (.iconst 0, 1) := by decide +kernel
theorem dX7_refresh_42 : decode cX7_refresh 42 = .ok (.invokestatic 120, 3) := by decide +kernel
theorem dX7_refresh_45 : decode cX7_refresh 45 = .ok (.iconst 0, 1) := by decide +kernel
theorem dX7_refresh_46 : decode cX7_refresh 46 = .ok (.istore_n 1, 1) := by decide +kernel
theorem dX7_refresh_47 : decode cX7_refresh 47 = .ok (.iload_n 1, 1) := by decide +kernel
theorem dX7_refresh_48 : decode cX7_refresh 48 = .ok (.aload_n 0, 1) := by decide +kernel
theorem dX7_refresh_49 : decode cX7_refresh 49 = .ok (.getfield 35, 3) := by decide +kernel
theorem dX7_refresh_52 : decode cX7_refresh 52 = .ok (.getfield 126, 3) := by decide +kernel
theorem dX7_refresh_55 : decode cX7_refresh 55 = .ok (.invokevirtual 130, 3) := by decide +kernel
theorem dX7_refresh_58 : decode cX7_refresh 58 = .ok (.if_icmp .ge 79, 3) := by decide +kernel
theorem dX7_refresh_61 : decode cX7_refresh 61 = .ok (.aload_n 0, 1) := by decide +kernel
theorem dX7_refresh_62 : decode cX7_refresh 62 = .ok (.getfield 35, 3) := by decide +kernel
theorem dX7_refresh_65 : decode cX7_refresh 65 = .ok (.getfield 126, 3) := by decide +kernel
theorem dX7_refresh_68 : decode cX7_refresh 68 = .ok (.iload_n 1, 1) := by decide +kernel
theorem dX7_refresh_69 : decode cX7_refresh 69 = .ok (.iconst 2, 1) := by decide +kernel
theorem dX7_refresh_70 : decode cX7_refresh 70 = .ok (.invokevirtual 136, 3) := by decide +kernel
theorem dX7_refresh_73 : decode cX7_refresh 73 = .ok (.istore_n 2, 1) := by decide +kernel
theorem dX7_refresh_74 : decode cX7_refresh 74 = .ok (.aload_n 0, 1) := by decide +kernel
theorem dX7_refresh_75 : decode cX7_refresh 75 = .ok (.getfield 35, 3) := by decide +kernel
theorem dX7_refresh_78 : decode cX7_refresh 78 = .ok (.getfield 126, 3) := by decide +kernel
theorem dX7_refresh_81 : decode cX7_refresh 81 = .ok (.iload_n 1, 1) := by decide +kernel
theorem dX7_refresh_82 : decode cX7_refresh 82 = .ok (.iconst 1, 1) := by decide +kernel
theorem dX7_refresh_83 : decode cX7_refresh 83 = .ok (.invokevirtual 136, 3) := by decide +kernel
theorem dX7_refresh_86 : decode cX7_refresh 86 = .ok (.istore_n 3, 1) := by decide +kernel
theorem dX7_refresh_87 : decode cX7_refresh 87 = .ok (.iload_n 3, 1) := by decide +kernel
theorem dX7_refresh_88 : decode cX7_refresh 88 = .ok (.ifCond .lt 43, 3) := by decide +kernel
theorem dX7_refresh_91 : decode cX7_refresh 91 = .ok (.iload_n 3, 1) := by decide +kernel
theorem dX7_refresh_92 : decode cX7_refresh 92 = .ok (.iload_n 2, 1) := by decide +kernel
theorem dX7_refresh_93 : decode cX7_refresh 93 = .ok (.if_icmp .gt 38, 3) := by decide +kernel
theorem dX7_refresh_96 : decode cX7_refresh 96 = .ok (.iload_n 3, 1) := by decide +kernel
theorem dX7_refresh_97 : decode cX7_refresh 97 = .ok (.bipush 96, 2) := by decide +kernel
theorem dX7_refresh_99 : decode cX7_refresh 99 = .ok (.if_icmp .ge 32, 3) := by decide +kernel
theorem dX7_refresh_102 : decode cX7_refresh 102 = .ok (.aload_n 0, 1) := by decide +kernel
theorem dX7_refresh_103 : decode cX7_refresh 103 = .ok (.getfield 25, 3) := by decide +kernel
theorem dX7_refresh_106 : decode cX7_refresh 106 = .ok (.iload_n 3, 1) := by decide +kernel
theorem dX7_refresh_107 : decode cX7_refresh 107 = .ok (.dup2, 1) := by decide +kernel
theorem dX7_refresh_108 : decode cX7_refresh 108 = .ok (.iaload, 1) := by decide +kernel
theorem dX7_refresh_109 : decode cX7_refresh 109 = .ok (.iconst 1, 1) := by decide +kernel
theorem dX7_refresh_110 : decode cX7_refresh 110 = .ok (.aload_n 0, 1) := by decide +kernel
theorem dX7_refresh_111 : decode cX7_refresh 111 = .ok (.getfield 35, 3) := by decide +kernel
theorem dX7_refresh_114 : decode cX7_refresh 114 = .ok (.getfield 126, 3) := by decide +kernel
theorem dX7_refresh_117 : decode cX7_refresh 117 = .ok (.iload_n 1, 1) := by decide +kernel
theorem dX7_refresh_118 : decode cX7_refresh 118 = .ok (.iconst 0, 1) := by decide +kernel
theorem dX7_refresh_119 : decode cX7_refresh 119 = .ok (.invokevirtual 136, 3) := by decide +kernel
theorem dX7_refresh_122 : decode cX7_refresh 122 = .ok (.ishl, 1) := by decide +kernel
theorem dX7_refresh_123 : decode cX7_refresh 123 = .ok (.ior, 1) := by decide +kernel
theorem dX7_refresh_124 : decode cX7_refresh 124 = .ok (.iastore, 1) := by decide +kernel
theorem dX7_refresh_125 : decode cX7_refresh 125 = .ok (.iinc 3 1, 3) := by decide +kernel
theorem dX7_refresh_128 : decode cX7_refresh 128 = .ok (.goto (-41), 3) := by decide +kernel
theorem dX7_refresh_131 : decode cX7_refresh 131 = .ok (.iinc 1 1, 3) := by decide +kernel
theorem dX7_refresh_134 : decode cX7_refresh 134 = .ok (.goto (-87), 3) := by decide +kernel
theorem dX7_refresh_137 : decode cX7_refresh 137 = .ok (.iconst 0, 1) := by decide +kernel
theorem dX7_refresh_138 : decode cX7_refresh 138 = .ok (.istore_n 1, 1) := by decide +kernel
theorem dX7_refresh_139 : decode cX7_refresh 139 = .ok (.iload_n 1, 1) := by decide +kernel
theorem dX7_refresh_140 : decode cX7_refresh 140 = .ok (.aload_n 0, 1) := by decide +kernel
theorem dX7_refresh_141 : decode cX7_refresh 141 = .ok (.getfield 35, 3) := by decide +kernel
theorem dX7_refresh_144 : decode cX7_refresh 144 = .ok (.getfield 139, 3) := by decide +kernel
theorem dX7_refresh_147 : decode cX7_refresh 147 = .ok (.invokevirtual 130, 3) := by decide +kernel
theorem dX7_refresh_150 : decode cX7_refresh 150 = .ok (.if_icmp .ge 39, 3) := by decide +kernel
theorem dX7_refresh_153 : decode cX7_refresh 153 = .ok (.aload_n 0, 1) := by decide +kernel
theorem dX7_refresh_154 : decode cX7_refresh 154 = .ok (.getfield 35, 3) := by decide +kernel
theorem dX7_refresh_157 : decode cX7_refresh 157 = .ok (.getfield 139, 3) := by decide +kernel
theorem dX7_refresh_160 : decode cX7_refresh 160 = .ok (.iload_n 1, 1) := by decide +kernel
theorem dX7_refresh_161 : decode cX7_refresh 161 = .ok (.iconst 0, 1) := by decide +kernel
theorem dX7_refresh_162 : decode cX7_refresh 162 = .ok (.invokevirtual 136, 3) := by decide +kernel
theorem dX7_refresh_165 : decode cX7_refresh 165 = .ok (.istore_n 2, 1) := by decide +kernel
theorem dX7_refresh_166 : decode cX7_refresh 166 = .ok (.iload_n 2, 1) := by decide +kernel
theorem dX7_refresh_167 : decode cX7_refresh 167 = .ok (.invokestatic 43, 3) := by decide +kernel
theorem dX7_refresh_170 : decode cX7_refresh 170 = .ok (.ifCond .eq 13, 3) := by decide +kernel
theorem dX7_refresh_173 : decode cX7_refresh 173 = .ok (.aload_n 0, 1) := by decide +kernel
theorem dX7_refresh_174 : decode cX7_refresh 174 = .ok (.getfield 28, 3) := by decide +kernel
theorem dX7_refresh_177 : decode cX7_refresh 177 = .ok (.iload_n 2, 1) := by decide +kernel
theorem dX7_refresh_178 : decode cX7_refresh 178 = .ok (.dup2, 1) := by decide +kernel
theorem dX7_refresh_179 : decode cX7_refresh 179 = .ok (.iaload, 1) := by decide +kernel
theorem dX7_refresh_180 : decode cX7_refresh 180 = .ok (.iconst 1, 1) := by decide +kernel
theorem dX7_refresh_181 : decode cX7_refresh 181 = .ok (.iadd, 1) := by decide +kernel
theorem dX7_refresh_182 : decode cX7_refresh 182 = .ok (.iastore, 1) := by decide +kernel
theorem dX7_refresh_183 : decode cX7_refresh 183 = .ok (.iinc 1 1, 3) := by decide +kernel
theorem dX7_refresh_186 : decode cX7_refresh 186 = .ok (.goto (-47), 3) := by decide +kernel
theorem dX7_refresh_189 : decode cX7_refresh 189 = .ok (.return_, 1) := by decide +kernel
set_option maxHeartbeats 4000000 in
set_option maxRecDepth 100000 in
theorem c_X7_refresh (l : Launch) (E : Nat → ClassId) (D : va_G) (G : th_G) (h0 : Nat) (hG0 : G h0 = some (9, 0)) : Met l yX7_refresh (tb (.code yX7_refresh cX7_refresh 4 none)) (rm 2) (va_Pc [.ref h0] (th_P E D G)) (QV E D G) 0 0 (th_A G) := by
  refine Met.ofW (cc := cX7_refresh) (maxL := 4) (ret := none) (by decide) rfl ?_
  intro p e s m args below meth c s₁ B hml hv
  obtain ⟨hav, hI, hN, hK⟩ := hv
  have hx := B.exec
  have hb := B.bytes
  have hr := B.returns
  have hts := atoms_spec (ws := tb (.code yX7_refresh cX7_refresh 4 none)) B.pre
  have hown : s.vm.findClass RX7 = some m.cls := findClass_of_methodNamed B.named
  have hlocks := B.notSynchronized
  have hS : va_S (th_A G) s.heap s.heap [] := va_S.rf
  have hl := lv_entry ([.ref h0]) (n := 4) (Nat.le_of_ble_eq_true rfl)
  rw [show entryFrame m args 4 = entryFrame m ([.ref h0] : List Value).toArray 4 from by rw [hav], lg_entry_eq]
  generalize (lg_sl ([.ref h0]) ++ List.replicate (4 - (lg_sl ([.ref h0])).length) Slot.unset).toArray = ls at hl ⊢
  have hl : lv_has ls 4 [(0, .ref h0)] := hl
  generalize hR : (headSpec (tb (.code yX7_refresh cX7_refresh 4 none)) (rm 2)).room = R
  have hR := hR.symm
  generalize hQ : MQ below (QV E D G) args s 0 0 (th_A G) = QF
  have hQ := hQ.symm
  have J_139 : ∀ (nn : Nat) (H : Heap) (locs : List Loc) (ls : Array Slot) (v10445 : Int32), (Int.toNat (6 - v10445.toInt) = nn) → lv_has ls 4 [(1, .int v10445), (0, .ref h0)] → ((0 : Int) ≤ v10445.toInt ∧ v10445.toInt ≤ 6) → th_I (okC E) D G [] H → va_S (th_A G) s.heap H locs → W p l e R s m args below meth c H locs 0 0 QF (F0 m 139 ls []) := by
    intro nn
    induction nn using Nat.strongRecOn with
    | ind nn ih_139 =>
      intro H locs ls v10445 hm hl k10446 hI hS
      refine lv_iload_n hx hb dX7_refresh_139 rfl (lv_at hl 0 rfl) ?_
      refine lv_aload_n hx hb dX7_refresh_140 rfl (lv_at hl 1 rfl) ?_
      obtain ⟨a10447, a10449, a10451, a10453, a10455, a10457, w10459, hO, hq10448, hq10450, hq10452, hq10454, hq10456, hq10458⟩ := op_9 hI hG0 List.not_mem_nil
      have hI := th_I.weak (a := h0) hI
      refine th_get hx hb hts inT7 hown hK hO rfl 0 (by decide) (hts _ (tb_c wd_189)) rfl rfl dX7_refresh_141 ?_
      have hI := th_I.close hI hG0 hO (ok_9 hq10448 hq10450 hq10452 hq10454 hq10456 hq10458)
      obtain ⟨a10460, a10462, a10464, a10466, a10468, a10470, a10472, a10474, a10476, a10478, w10480, w10483, w10484, w10485, hO, hq10461, hq10463, hq10465, hq10467, hq10469, hq10471, hq10473, hq10475, hq10477, hq10479, ⟨k10481, k10482⟩⟩ := op_6 hI hq10448 List.not_mem_nil
      have hI := th_I.weak (a := a10447) hI
      refine th_getN hx hb hts inT6 hown hK hN hO rfl 3 (by decide) wn_65 rfl rfl dX7_refresh_144 ?_
      have hI := th_I.close hI hq10448 hO (ok_6 hq10461 hq10463 hq10465 hq10467 hq10469 hq10471 hq10473 hq10475 hq10477 hq10479 ⟨by omega, by omega⟩)
      obtain ⟨a10487, w10489, hO, hq10488, ⟨k10490, k10491⟩, k10492⟩ := op_4 hI hq10467 List.not_mem_nil
      have hI := th_I.weak (a := a10466) hI
      have k10493 : (nI 6).toInt = ((6 : Nat) : Int) := nI_toInt (by omega)
      refine th_cVs (As := []) (rest := [.int v10445]) (n := 0) (d := 0) ⟨hx, hb, hml, hown, hts⟩ (c_X4_size l E D H a10466 6 a10487 w10489 hO (by omega) (by omega) (by omega)) wd_543 wd_507 wd_508 wd_3 wd_509 (by decide +kernel) ⟨by rw [hR]; exact Nat.le_of_ble_eq_true rfl, by rw [hR]; exact Nat.le_of_ble_eq_true rfl⟩ hN hK hS ⟨_, hO⟩ rfl rfl hl.1 rfl (Nat.le_of_ble_eq_true rfl) dX7_refresh_147 ⟨Nat.zero_le _, Nat.zero_le _⟩ (fun r10486 locs hp hS => ?_)
      have hp := hp.symm
      subst hp
      refine lv_icmp_ge (tgt := 189) hx hb dX7_refresh_150 (by decide) (fun c10494 => ?_) (fun c10494 => ?_)
      · skip
        have k10495 := iv_le (X := w10489.toInt) (Y := v10445.toInt) rfl rfl c10494
        have hI := th_I.close hI hq10467 hO (ok_4 hq10488 ⟨by omega, by omega⟩ (by omega))
        rw [hQ]
        exact W.vret hx hb hr (fun t ht hW => ⟨⟨(), rfl, trivial, by rw [ht]; exact hI, hN.warm hW, va_K.moved hW.alike hK⟩, hS.F ht⟩) hS.2.2 dX7_refresh_189
      · skip
        have k10496 := iv_nle (X := w10489.toInt) (Y := v10445.toInt) rfl rfl c10494
        refine lv_aload_n hx hb dX7_refresh_153 rfl (lv_at hl 1 rfl) ?_
        have hI := th_I.close hI hq10467 hO (ok_4 hq10488 ⟨by omega, by omega⟩ (by omega))
        obtain ⟨a10497, a10499, a10501, a10503, a10505, a10507, w10509, hO, hq10498, hq10500, hq10502, hq10504, hq10506, hq10508⟩ := op_9 hI hG0 List.not_mem_nil
        have hI := th_I.weak (a := h0) hI
        refine th_get hx hb hts inT7 hown hK hO rfl 0 (by decide) (hts _ (tb_c wd_189)) rfl rfl dX7_refresh_154 ?_
        have hI := th_I.close hI hG0 hO (ok_9 hq10498 hq10500 hq10502 hq10504 hq10506 hq10508)
        obtain ⟨a10510, a10512, a10514, a10516, a10518, a10520, a10522, a10524, a10526, a10528, w10530, w10533, w10534, w10535, hO, hq10511, hq10513, hq10515, hq10517, hq10519, hq10521, hq10523, hq10525, hq10527, hq10529, ⟨k10531, k10532⟩⟩ := op_6 hI hq10498 List.not_mem_nil
        have hI := th_I.weak (a := a10497) hI
        refine th_getN hx hb hts inT6 hown hK hN hO rfl 3 (by decide) wn_65 rfl rfl dX7_refresh_157 ?_
        refine lv_iload_n hx hb dX7_refresh_160 rfl (lv_at hl 0 rfl) ?_
        refine lv_iconst (v := 0) hx hb dX7_refresh_161 (by decide) ?_
        have hI := th_I.close hI hq10498 hO (ok_6 hq10511 hq10513 hq10515 hq10517 hq10519 hq10521 hq10523 hq10525 hq10527 hq10529 ⟨by omega, by omega⟩)
        refine th_cVi (As := [.int v10445, .int 0]) (rest := []) (n := 2) (d := 0) ⟨hx, hb, hml, hown, hts⟩ (c_X4_at l E D G a10516 (6) hq10517 v10445 0) wd_544 wd_519 wd_520 wd_3 wd_521 (by decide +kernel) ⟨by rw [hR]; exact Nat.le_of_ble_eq_true rfl, by rw [hR]; exact Nat.le_of_ble_eq_true rfl⟩ hI hN hK hS (rc_4 hI hq10517 List.not_mem_nil) rfl rfl hl.1 rfl (Nat.le_of_ble_eq_true rfl) dX7_refresh_162 ⟨Nat.zero_le _, Nat.zero_le _⟩ (fun r10536 H locs hp hI hS => ?_)
        refine lv_istore_n (lv' := [(2, .int r10536), (1, .int v10445), (0, .ref h0)]) hx hb dX7_refresh_165 rfl hl (by decide) rfl (fun ls hl => ?_)
        refine lv_iload_n hx hb dX7_refresh_166 rfl (lv_at hl 0 rfl) ?_
        refine th_cSN (As := [.int r10536]) (rest := []) (n := 1) (d := 0) ⟨hx, hb, hml, hown, hts⟩ (c_X11_isCell l H r10536) wn_534 wd_402 wd_1 wd_403 (by decide +kernel) ⟨by rw [hR]; exact Nat.le_of_ble_eq_true rfl, by rw [hR]; exact Nat.le_of_ble_eq_true rfl⟩ hN hS rfl hl.1 rfl (Nat.le_of_ble_eq_true rfl) dX7_refresh_167 ⟨Nat.zero_le _, Nat.zero_le _⟩ (fun r10537 locs hp hS => ?_)
        rcases hp with ⟨rfl, hp⟩ | ⟨rfl, hp⟩
        · skip
          try simp only [rg, not_and, Int.not_le] at hp
          have hp10538 := hp
          refine lv_if_eq (tgt := 183) hx hb dX7_refresh_170 (by decide) (fun c => absurd c (by decide)) (fun _ => ?_)
          refine lv_aload_n hx hb dX7_refresh_173 rfl (lv_at hl 2 rfl) ?_
          obtain ⟨a10539, a10541, a10543, a10545, a10547, a10549, w10551, hO, hq10540, hq10542, hq10544, hq10546, hq10548, hq10550⟩ := op_9 hI hG0 List.not_mem_nil
          have hI := th_I.weak (a := h0) hI
          refine th_get hx hb hts inT7 hown hK hO rfl 5 (by decide) (hts _ (tb_c wd_194)) rfl rfl dX7_refresh_174 ?_
          refine lv_iload_n hx hb dX7_refresh_177 rfl (lv_at hl 0 rfl) ?_
          refine lv_dup2_11 hx hb dX7_refresh_178 rfl rfl ?_
          obtain ⟨_, hA10552⟩ := op_0 hI hq10550 (th_ne hG0 hq10550 (show (9 : Nat) ≠ 0 by decide))
          refine th_iald hx hb hK hA10552 0 rfl (iv_in (X := r10536.toInt) rfl (by omega) (by omega)) dX7_refresh_179 (fun v10553 _ => ?_)
          refine lv_iconst (v := 1) hx hb dX7_refresh_180 (by decide) ?_
          refine lv_iadd hx hb dX7_refresh_181 ?_
          refine lv_topi (fun v10554 e10555 => ?_)
          try have tv10554 : v10554.toInt = v10553.toInt + (1) := iv_add rfl (by decide) e10555 (by omega) (by omega)
          obtain ⟨_, hA10556⟩ := op_0 hI hq10550 (th_ne hG0 hq10550 (show (9 : Nat) ≠ 0 by decide))
          refine th_iast hx hb hK hA10556 0 rfl hS ⟨_, hq10550⟩ (iv_in (X := r10536.toInt) rfl (by omega) (by omega)) dX7_refresh_182 (fun H locs hA10556 oq hS => ?_)
          have hI := th_I.put hI hq10550 hA10556 ok_0 oq
          have hO := hO.kept (oq _ (fun z => th_ne hG0 hq10550 (show (9 : Nat) ≠ 0 by decide) (List.mem_singleton.mpr z.symm)))
          obtain ⟨v10557, e10558⟩ : ∃ y : Int32, y = v10445 + (1) := ⟨_, rfl⟩
          have tv10557 : v10557.toInt = v10445.toInt + (1) := iv_add rfl (by decide) e10558 (by omega) (by omega)
          refine lv_iinc (v := v10557) (lv' := [(1, .int v10557), (2, .int r10536), (0, .ref h0)]) hx hb dX7_refresh_183 hl (k := 1) rfl (by rw [e10558]; rfl) (by decide) rfl (fun ls hl => ?_)
          refine lv_goto (tgt := 139) hx hb dX7_refresh_186 (by decide) ?_
          have hI := th_I.close hI hG0 hO (ok_9 hq10540 hq10542 hq10544 hq10546 hq10548 hq10550)
          exact ih_139 _ (by omega) H locs ls v10557 rfl (lv_sub hl [0, 2] rfl) ⟨by omega, by omega⟩ hI hS
        · skip
          try simp only [rg, not_and, Int.not_le] at hp
          have hp10559 := hp
          refine lv_if_eq (tgt := 183) hx hb dX7_refresh_170 (by decide) (fun _ => ?_) (fun c => absurd c (by decide))
          obtain ⟨v10560, e10561⟩ : ∃ y : Int32, y = v10445 + (1) := ⟨_, rfl⟩
          have tv10560 : v10560.toInt = v10445.toInt + (1) := iv_add rfl (by decide) e10561 (by omega) (by omega)
          refine lv_iinc (v := v10560) (lv' := [(1, .int v10560), (2, .int r10536), (0, .ref h0)]) hx hb dX7_refresh_183 hl (k := 1) rfl (by rw [e10561]; rfl) (by decide) rfl (fun ls hl => ?_)
          refine lv_goto (tgt := 139) hx hb dX7_refresh_186 (by decide) ?_
          exact ih_139 _ (by omega) H locs ls v10560 rfl (lv_sub hl [0, 2] rfl) ⟨by omega, by omega⟩ hI hS
  have J_47 : ∀ (nn : Nat) (H : Heap) (locs : List Loc) (ls : Array Slot) (v10562 : Int32), (Int.toNat (9 - v10562.toInt) = nn) → lv_has ls 4 [(1, .int v10562), (0, .ref h0)] → ((0 : Int) ≤ v10562.toInt ∧ v10562.toInt ≤ 9) → th_I (okC E) D G [] H → va_S (th_A G) s.heap H locs → W p l e R s m args below meth c H locs 0 0 QF (F0 m 47 ls []) := by
    intro nn
    induction nn using Nat.strongRecOn with
    | ind nn ih_47 =>
      intro H locs ls v10562 hm hl k10563 hI hS
      have J_131 : ∀ (H : Heap) (locs : List Loc) (ls : Array Slot) (v10564 : Int32) (v10565 : Int32), lv_has ls 4 [(3, .int v10564), (2, .int v10565), (1, .int v10562), (0, .ref h0)] → ((0 : Int) ≤ v10562.toInt ∧ v10562.toInt ≤ 8) → th_I (okC E) D G [] H → va_S (th_A G) s.heap H locs → W p l e R s m args below meth c H locs 0 0 QF (F0 m 131 ls []) := by
        intro H locs ls v10564 v10565 hl k10567 hI hS
        obtain ⟨v10568, e10569⟩ : ∃ y : Int32, y = v10562 + (1) := ⟨_, rfl⟩
        have tv10568 : v10568.toInt = v10562.toInt + (1) := iv_add rfl (by decide) e10569 (by omega) (by omega)
        refine lv_iinc (v := v10568) (lv' := [(1, .int v10568), (3, .int v10564), (2, .int v10565), (0, .ref h0)]) hx hb dX7_refresh_131 hl (k := 2) rfl (by rw [e10569]; rfl) (by decide) rfl (fun ls hl => ?_)
        refine lv_goto (tgt := 47) hx hb dX7_refresh_134 (by decide) ?_
        exact ih_47 _ (by omega) H locs ls v10568 rfl (lv_sub hl [0, 3] rfl) ⟨by omega, by omega⟩ hI hS
      have J_87 : ∀ (nn : Nat) (H : Heap) (locs : List Loc) (ls : Array Slot) (v10570 : Int32) (v10571 : Int32), (Int.toNat (96 - v10570.toInt) = nn) → lv_has ls 4 [(3, .int v10570), (2, .int v10571), (1, .int v10562), (0, .ref h0)] → ((0 : Int) ≤ v10562.toInt ∧ v10562.toInt ≤ 8) → th_I (okC E) D G [] H → va_S (th_A G) s.heap H locs → W p l e R s m args below meth c H locs 0 0 QF (F0 m 87 ls []) := by
        intro nn
        induction nn using Nat.strongRecOn with
        | ind nn ih_87 =>
          intro H locs ls v10570 v10571 hm hl k10573 hI hS
          refine lv_iload_n hx hb dX7_refresh_87 rfl (lv_at hl 0 rfl) ?_
          have k10574 := iv_lo v10570
          have k10575 := iv_hi v10570
          refine lv_if_lt (tgt := 131) hx hb dX7_refresh_88 (by decide) (fun c10576 => ?_) (fun c10576 => ?_)
          · skip
            have k10577 := iv_lt (X := v10570.toInt) (Y := (0)) rfl (by decide) c10576
            exact J_131 H locs ls v10570 v10571 (lv_sub hl [0, 1, 2, 3] rfl) ⟨by omega, by omega⟩ hI hS
          · skip
            have k10578 := iv_nlt (X := v10570.toInt) (Y := (0)) rfl (by decide) c10576
            refine lv_iload_n hx hb dX7_refresh_91 rfl (lv_at hl 0 rfl) ?_
            refine lv_iload_n hx hb dX7_refresh_92 rfl (lv_at hl 1 rfl) ?_
            have k10579 := iv_lo v10571
            have k10580 := iv_hi v10571
            refine lv_icmp_gt (tgt := 131) hx hb dX7_refresh_93 (by decide) (fun c10581 => ?_) (fun c10581 => ?_)
            · skip
              have k10582 := iv_lt (X := v10571.toInt) (Y := v10570.toInt) rfl rfl c10581
              exact J_131 H locs ls v10570 v10571 (lv_sub hl [0, 1, 2, 3] rfl) ⟨by omega, by omega⟩ hI hS
            · skip
              have k10583 := iv_nlt (X := v10571.toInt) (Y := v10570.toInt) rfl rfl c10581
              refine lv_iload_n hx hb dX7_refresh_96 rfl (lv_at hl 0 rfl) ?_
              refine lv_bipush (v := 96) hx hb dX7_refresh_97 (by decide) ?_
              refine lv_icmp_ge (tgt := 131) hx hb dX7_refresh_99 (by decide) (fun c10584 => ?_) (fun c10584 => ?_)
              · skip
                have k10585 := iv_le (X := (96)) (Y := v10570.toInt) (by decide) rfl c10584
                exact J_131 H locs ls v10570 v10571 (lv_sub hl [0, 1, 2, 3] rfl) ⟨by omega, by omega⟩ hI hS
              · skip
                have k10586 := iv_nle (X := (96)) (Y := v10570.toInt) (by decide) rfl c10584
                refine lv_aload_n hx hb dX7_refresh_102 rfl (lv_at hl 3 rfl) ?_
                obtain ⟨a10587, a10589, a10591, a10593, a10595, a10597, w10599, hO, hq10588, hq10590, hq10592, hq10594, hq10596, hq10598⟩ := op_9 hI hG0 List.not_mem_nil
                have hI := th_I.weak (a := h0) hI
                refine th_get hx hb hts inT7 hown hK hO rfl 4 (by decide) (hts _ (tb_c wd_193)) rfl rfl dX7_refresh_103 ?_
                refine lv_iload_n hx hb dX7_refresh_106 rfl (lv_at hl 0 rfl) ?_
                refine lv_dup2_11 hx hb dX7_refresh_107 rfl rfl ?_
                obtain ⟨_, hA10600⟩ := op_0 hI hq10596 (th_ne hG0 hq10596 (show (9 : Nat) ≠ 0 by decide))
                refine th_iald hx hb hK hA10600 0 rfl (iv_in (X := v10570.toInt) rfl (by omega) (by omega)) dX7_refresh_108 (fun v10601 _ => ?_)
                refine lv_iconst (v := 1) hx hb dX7_refresh_109 (by decide) ?_
                refine lv_aload_n hx hb dX7_refresh_110 rfl (lv_at hl 3 rfl) ?_
                refine th_get hx hb hts inT7 hown hK hO rfl 0 (by decide) (hts _ (tb_c wd_189)) rfl rfl dX7_refresh_111 ?_
                have hI := th_I.close hI hG0 hO (ok_9 hq10588 hq10590 hq10592 hq10594 hq10596 hq10598)
                obtain ⟨a10602, a10604, a10606, a10608, a10610, a10612, a10614, a10616, a10618, a10620, w10622, w10625, w10626, w10627, hO, hq10603, hq10605, hq10607, hq10609, hq10611, hq10613, hq10615, hq10617, hq10619, hq10621, ⟨k10623, k10624⟩⟩ := op_6 hI hq10588 List.not_mem_nil
                have hI := th_I.weak (a := a10587) hI
                refine th_getN hx hb hts inT6 hown hK hN hO rfl 2 (by decide) wn_62 rfl rfl dX7_refresh_114 ?_
                refine lv_iload_n hx hb dX7_refresh_117 rfl (lv_at hl 2 rfl) ?_
                refine lv_iconst (v := 0) hx hb dX7_refresh_118 (by decide) ?_
                have hI := th_I.close hI hq10588 hO (ok_6 hq10603 hq10605 hq10607 hq10609 hq10611 hq10613 hq10615 hq10617 hq10619 hq10621 ⟨by omega, by omega⟩)
                refine th_cVi (As := [.int v10562, .int 0]) (rest := [.int 1, .int v10601, .int v10570, .ref a10595]) (n := 2) (d := 0) ⟨hx, hb, hml, hown, hts⟩ (c_X4_at l E D G a10606 (8) hq10607 v10562 0) wd_544 wd_519 wd_520 wd_3 wd_521 (by decide +kernel) ⟨by rw [hR]; exact Nat.le_of_ble_eq_true rfl, by rw [hR]; exact Nat.le_of_ble_eq_true rfl⟩ hI hN hK hS (rc_4 hI hq10607 List.not_mem_nil) rfl rfl hl.1 rfl (Nat.le_of_ble_eq_true rfl) dX7_refresh_119 ⟨Nat.zero_le _, Nat.zero_le _⟩ (fun r10628 H locs hp hI hS => ?_)
                refine lv_ishl hx hb dX7_refresh_122 ?_
                refine lv_topi (fun v10629 e10630 => ?_)
                refine lv_ior hx hb dX7_refresh_123 ?_
                refine lv_topi (fun v10631 e10632 => ?_)
                obtain ⟨_, hA10633⟩ := op_0 hI hq10596 List.not_mem_nil
                refine th_iast hx hb hK hA10633 0 rfl hS ⟨_, hq10596⟩ (iv_in (X := v10570.toInt) rfl (by omega) (by omega)) dX7_refresh_124 (fun H locs hA10633 oq hS => ?_)
                have hI := th_I.put hI hq10596 hA10633 ok_0 oq
                obtain ⟨v10634, e10635⟩ : ∃ y : Int32, y = v10570 + (1) := ⟨_, rfl⟩
                have tv10634 : v10634.toInt = v10570.toInt + (1) := iv_add rfl (by decide) e10635 (by omega) (by omega)
                refine lv_iinc (v := v10634) (lv' := [(3, .int v10634), (2, .int v10571), (1, .int v10562), (0, .ref h0)]) hx hb dX7_refresh_125 hl (k := 0) rfl (by rw [e10635]; rfl) (by decide) rfl (fun ls hl => ?_)
                refine lv_goto (tgt := 87) hx hb dX7_refresh_128 (by decide) ?_
                exact ih_87 _ (by omega) H locs ls v10634 v10571 rfl (lv_sub hl [0, 1, 2, 3] rfl) ⟨by omega, by omega⟩ hI hS
      refine lv_iload_n hx hb dX7_refresh_47 rfl (lv_at hl 0 rfl) ?_
      refine lv_aload_n hx hb dX7_refresh_48 rfl (lv_at hl 1 rfl) ?_
      obtain ⟨a10636, a10638, a10640, a10642, a10644, a10646, w10648, hO, hq10637, hq10639, hq10641, hq10643, hq10645, hq10647⟩ := op_9 hI hG0 List.not_mem_nil
      have hI := th_I.weak (a := h0) hI
      refine th_get hx hb hts inT7 hown hK hO rfl 0 (by decide) (hts _ (tb_c wd_189)) rfl rfl dX7_refresh_49 ?_
      have hI := th_I.close hI hG0 hO (ok_9 hq10637 hq10639 hq10641 hq10643 hq10645 hq10647)
      obtain ⟨a10649, a10651, a10653, a10655, a10657, a10659, a10661, a10663, a10665, a10667, w10669, w10672, w10673, w10674, hO, hq10650, hq10652, hq10654, hq10656, hq10658, hq10660, hq10662, hq10664, hq10666, hq10668, ⟨k10670, k10671⟩⟩ := op_6 hI hq10637 List.not_mem_nil
      have hI := th_I.weak (a := a10636) hI
      refine th_getN hx hb hts inT6 hown hK hN hO rfl 2 (by decide) wn_62 rfl rfl dX7_refresh_52 ?_
      have hI := th_I.close hI hq10637 hO (ok_6 hq10650 hq10652 hq10654 hq10656 hq10658 hq10660 hq10662 hq10664 hq10666 hq10668 ⟨by omega, by omega⟩)
      obtain ⟨a10676, w10678, hO, hq10677, ⟨k10679, k10680⟩, k10681⟩ := op_4 hI hq10654 List.not_mem_nil
      have hI := th_I.weak (a := a10653) hI
      have k10682 : (nI 8).toInt = ((8 : Nat) : Int) := nI_toInt (by omega)
      refine th_cVs (As := []) (rest := [.int v10562]) (n := 0) (d := 0) ⟨hx, hb, hml, hown, hts⟩ (c_X4_size l E D H a10653 8 a10676 w10678 hO (by omega) (by omega) (by omega)) wd_543 wd_507 wd_508 wd_3 wd_509 (by decide +kernel) ⟨by rw [hR]; exact Nat.le_of_ble_eq_true rfl, by rw [hR]; exact Nat.le_of_ble_eq_true rfl⟩ hN hK hS ⟨_, hO⟩ rfl rfl hl.1 rfl (Nat.le_of_ble_eq_true rfl) dX7_refresh_55 ⟨Nat.zero_le _, Nat.zero_le _⟩ (fun r10675 locs hp hS => ?_)
      have hp := hp.symm
      subst hp
      refine lv_icmp_ge (tgt := 137) hx hb dX7_refresh_58 (by decide) (fun c10683 => ?_) (fun c10683 => ?_)
      · skip
        have k10684 := iv_le (X := w10678.toInt) (Y := v10562.toInt) rfl rfl c10683
        refine lv_iconst (v := 0) hx hb dX7_refresh_137 (by decide) ?_
        refine lv_istore_n (lv' := [(1, .int 0), (0, .ref h0)]) hx hb dX7_refresh_138 rfl hl (by decide) rfl (fun ls hl => ?_)
        have hI := th_I.close hI hq10654 hO (ok_4 hq10677 ⟨by omega, by omega⟩ (by omega))
        have zl : (0 : Int32).toInt = 0 := by decide
        exact J_139 _ H locs ls 0 rfl (lv_sub hl [0, 1] rfl) ⟨by decide, by decide⟩ hI hS
      · skip
        have k10685 := iv_nle (X := w10678.toInt) (Y := v10562.toInt) rfl rfl c10683
        refine lv_aload_n hx hb dX7_refresh_61 rfl (lv_at hl 1 rfl) ?_
        have hI := th_I.close hI hq10654 hO (ok_4 hq10677 ⟨by omega, by omega⟩ (by omega))
        obtain ⟨a10686, a10688, a10690, a10692, a10694, a10696, w10698, hO, hq10687, hq10689, hq10691, hq10693, hq10695, hq10697⟩ := op_9 hI hG0 List.not_mem_nil
        have hI := th_I.weak (a := h0) hI
        refine th_get hx hb hts inT7 hown hK hO rfl 0 (by decide) (hts _ (tb_c wd_189)) rfl rfl dX7_refresh_62 ?_
        have hI := th_I.close hI hG0 hO (ok_9 hq10687 hq10689 hq10691 hq10693 hq10695 hq10697)
        obtain ⟨a10699, a10701, a10703, a10705, a10707, a10709, a10711, a10713, a10715, a10717, w10719, w10722, w10723, w10724, hO, hq10700, hq10702, hq10704, hq10706, hq10708, hq10710, hq10712, hq10714, hq10716, hq10718, ⟨k10720, k10721⟩⟩ := op_6 hI hq10687 List.not_mem_nil
        have hI := th_I.weak (a := a10686) hI
        refine th_getN hx hb hts inT6 hown hK hN hO rfl 2 (by decide) wn_62 rfl rfl dX7_refresh_65 ?_
        refine lv_iload_n hx hb dX7_refresh_68 rfl (lv_at hl 0 rfl) ?_
        refine lv_iconst (v := 2) hx hb dX7_refresh_69 (by decide) ?_
        have hI := th_I.close hI hq10687 hO (ok_6 hq10700 hq10702 hq10704 hq10706 hq10708 hq10710 hq10712 hq10714 hq10716 hq10718 ⟨by omega, by omega⟩)
        refine th_cVi (As := [.int v10562, .int 2]) (rest := []) (n := 2) (d := 0) ⟨hx, hb, hml, hown, hts⟩ (c_X4_at l E D G a10703 (8) hq10704 v10562 2) wd_544 wd_519 wd_520 wd_3 wd_521 (by decide +kernel) ⟨by rw [hR]; exact Nat.le_of_ble_eq_true rfl, by rw [hR]; exact Nat.le_of_ble_eq_true rfl⟩ hI hN hK hS (rc_4 hI hq10704 List.not_mem_nil) rfl rfl hl.1 rfl (Nat.le_of_ble_eq_true rfl) dX7_refresh_70 ⟨Nat.zero_le _, Nat.zero_le _⟩ (fun r10725 H locs hp hI hS => ?_)
        refine lv_istore_n (lv' := [(2, .int r10725), (1, .int v10562), (0, .ref h0)]) hx hb dX7_refresh_73 rfl hl (by decide) rfl (fun ls hl => ?_)
        refine lv_aload_n hx hb dX7_refresh_74 rfl (lv_at hl 2 rfl) ?_
        obtain ⟨a10726, a10728, a10730, a10732, a10734, a10736, w10738, hO, hq10727, hq10729, hq10731, hq10733, hq10735, hq10737⟩ := op_9 hI hG0 List.not_mem_nil
        have hI := th_I.weak (a := h0) hI
        refine th_get hx hb hts inT7 hown hK hO rfl 0 (by decide) (hts _ (tb_c wd_189)) rfl rfl dX7_refresh_75 ?_
        have hI := th_I.close hI hG0 hO (ok_9 hq10727 hq10729 hq10731 hq10733 hq10735 hq10737)
        obtain ⟨a10739, a10741, a10743, a10745, a10747, a10749, a10751, a10753, a10755, a10757, w10759, w10762, w10763, w10764, hO, hq10740, hq10742, hq10744, hq10746, hq10748, hq10750, hq10752, hq10754, hq10756, hq10758, ⟨k10760, k10761⟩⟩ := op_6 hI hq10727 List.not_mem_nil
        have hI := th_I.weak (a := a10726) hI
        refine th_getN hx hb hts inT6 hown hK hN hO rfl 2 (by decide) wn_62 rfl rfl dX7_refresh_78 ?_
        refine lv_iload_n hx hb dX7_refresh_81 rfl (lv_at hl 1 rfl) ?_
        refine lv_iconst (v := 1) hx hb dX7_refresh_82 (by decide) ?_
        have hI := th_I.close hI hq10727 hO (ok_6 hq10740 hq10742 hq10744 hq10746 hq10748 hq10750 hq10752 hq10754 hq10756 hq10758 ⟨by omega, by omega⟩)
        refine th_cVi (As := [.int v10562, .int 1]) (rest := []) (n := 2) (d := 0) ⟨hx, hb, hml, hown, hts⟩ (c_X4_at l E D G a10743 (8) hq10744 v10562 1) wd_544 wd_519 wd_520 wd_3 wd_521 (by decide +kernel) ⟨by rw [hR]; exact Nat.le_of_ble_eq_true rfl, by rw [hR]; exact Nat.le_of_ble_eq_true rfl⟩ hI hN hK hS (rc_4 hI hq10744 List.not_mem_nil) rfl rfl hl.1 rfl (Nat.le_of_ble_eq_true rfl) dX7_refresh_83 ⟨Nat.zero_le _, Nat.zero_le _⟩ (fun r10765 H locs hp hI hS => ?_)
        refine lv_istore_n (lv' := [(3, .int r10765), (2, .int r10725), (1, .int v10562), (0, .ref h0)]) hx hb dX7_refresh_86 rfl hl (by decide) rfl (fun ls hl => ?_)
        exact J_87 _ H locs ls r10765 r10725 rfl (lv_sub hl [0, 1, 2, 3] rfl) ⟨by omega, by omega⟩ hI hS
  refine lv_aload_n hx hb dX7_refresh_0 rfl (lv_at hl 0 rfl) ?_
  obtain ⟨a10766, a10768, a10770, a10772, a10774, a10776, w10778, hO, hq10767, hq10769, hq10771, hq10773, hq10775, hq10777⟩ := op_9 hI hG0 List.not_mem_nil
  have hI := th_I.weak (a := h0) hI
  refine th_get hx hb hts inT7 hown hK hO rfl 6 (by decide) (hts _ (tb_c wd_195)) rfl rfl dX7_refresh_1 ?_
  have k10779 := iv_lo w10778
  have k10780 := iv_hi w10778
  refine lv_if_ne (tgt := 8) hx hb dX7_refresh_4 (by decide) (fun c10781 => ?_) (fun c10781 => ?_)
  · skip
    have k10782 := iv_ne (X := w10778.toInt) (Y := (0)) rfl (by decide) c10781
    refine lv_aload_n hx hb dX7_refresh_8 rfl (lv_at hl 0 rfl) ?_
    refine lv_iconst (v := 0) hx hb dX7_refresh_9 (by decide) ?_
    refine th_put (ty := .boolean) hx hb hts inT7 tyX7 tyX7_ok nmX7 hown hK hO hS ⟨_, hG0⟩ rfl 6 (by decide) (hts _ (tb_c wd_195)) rfl rfl (by decide +kernel) (by decide) rfl (Nat.le_of_ble_eq_true rfl) dX7_refresh_10 (fun H locs hO oq hS => ?_)
    have hI := th_I.moved hI oq
    have hO : va_at D vwCl (h0, .inr (7, [.ref a10766, .ref a10768, .ref a10770, .ref a10772, .ref a10774, .ref a10776, .int 0])) H := hO
    refine lv_aload_n hx hb dX7_refresh_13 rfl (lv_at hl 0 rfl) ?_
    refine th_get hx hb hts inT7 hown hK hO rfl 2 (by decide) (hts _ (tb_c wd_191)) rfl rfl dX7_refresh_14 ?_
    refine lv_iconst (v := 0) hx hb dX7_refresh_17 (by decide) ?_
    have hI := th_I.close hI hG0 hO (ok_9 hq10767 hq10769 hq10771 hq10773 hq10775 hq10777)
    refine th_cSv (As := [.ref a10770, .int 0]) (rest := []) (n := 2) (d := 0) ⟨hx, hb, hml, hown, hts⟩ (c_J7_fill_53178 l E D G a10770 (2304) hq10771 (by omega) 0) wd_540 wd_541 wd_15 wd_542 (by decide +kernel) ⟨by rw [hR]; exact Nat.le_of_ble_eq_true rfl, by rw [hR]; exact Nat.le_of_ble_eq_true rfl⟩ hI hN hK hS rfl hl.1 rfl (Nat.le_of_ble_eq_true rfl) dX7_refresh_18 ⟨Nat.zero_le _, Nat.zero_le _⟩ (fun H locs hI hS => ?_)
    refine lv_aload_n hx hb dX7_refresh_21 rfl (lv_at hl 0 rfl) ?_
    obtain ⟨a10784, a10786, a10788, a10790, a10792, a10794, w10796, hO, hq10785, hq10787, hq10789, hq10791, hq10793, hq10795⟩ := op_9 hI hG0 List.not_mem_nil
    have hI := th_I.weak (a := h0) hI
    refine th_get hx hb hts inT7 hown hK hO rfl 3 (by decide) (hts _ (tb_c wd_192)) rfl rfl dX7_refresh_22 ?_
    refine lv_iconst (v := 0) hx hb dX7_refresh_25 (by decide) ?_
    have hI := th_I.close hI hG0 hO (ok_9 hq10785 hq10787 hq10789 hq10791 hq10793 hq10795)
    refine th_cSv (As := [.ref a10790, .int 0]) (rest := []) (n := 2) (d := 0) ⟨hx, hb, hml, hown, hts⟩ (c_J7_fill_53178 l E D G a10790 (2304) hq10791 (by omega) 0) wd_540 wd_541 wd_15 wd_542 (by decide +kernel) ⟨by rw [hR]; exact Nat.le_of_ble_eq_true rfl, by rw [hR]; exact Nat.le_of_ble_eq_true rfl⟩ hI hN hK hS rfl hl.1 rfl (Nat.le_of_ble_eq_true rfl) dX7_refresh_26 ⟨Nat.zero_le _, Nat.zero_le _⟩ (fun H locs hI hS => ?_)
    refine lv_aload_n hx hb dX7_refresh_29 rfl (lv_at hl 0 rfl) ?_
    obtain ⟨a10798, a10800, a10802, a10804, a10806, a10808, w10810, hO, hq10799, hq10801, hq10803, hq10805, hq10807, hq10809⟩ := op_9 hI hG0 List.not_mem_nil
    have hI := th_I.weak (a := h0) hI
    refine th_get hx hb hts inT7 hown hK hO rfl 4 (by decide) (hts _ (tb_c wd_193)) rfl rfl dX7_refresh_30 ?_
    refine lv_iconst (v := 0) hx hb dX7_refresh_33 (by decide) ?_
    have hI := th_I.close hI hG0 hO (ok_9 hq10799 hq10801 hq10803 hq10805 hq10807 hq10809)
    refine th_cSv (As := [.ref a10806, .int 0]) (rest := []) (n := 2) (d := 0) ⟨hx, hb, hml, hown, hts⟩ (c_J7_fill_53178 l E D G a10806 (96) hq10807 (by omega) 0) wd_540 wd_541 wd_15 wd_542 (by decide +kernel) ⟨by rw [hR]; exact Nat.le_of_ble_eq_true rfl, by rw [hR]; exact Nat.le_of_ble_eq_true rfl⟩ hI hN hK hS rfl hl.1 rfl (Nat.le_of_ble_eq_true rfl) dX7_refresh_34 ⟨Nat.zero_le _, Nat.zero_le _⟩ (fun H locs hI hS => ?_)
    refine lv_aload_n hx hb dX7_refresh_37 rfl (lv_at hl 0 rfl) ?_
    obtain ⟨a10812, a10814, a10816, a10818, a10820, a10822, w10824, hO, hq10813, hq10815, hq10817, hq10819, hq10821, hq10823⟩ := op_9 hI hG0 List.not_mem_nil
    have hI := th_I.weak (a := h0) hI
    refine th_get hx hb hts inT7 hown hK hO rfl 5 (by decide) (hts _ (tb_c wd_194)) rfl rfl dX7_refresh_38 ?_
    refine lv_iconst (v := 0) hx hb dX7_refresh_41 (by decide) ?_
    have hI := th_I.close hI hG0 hO (ok_9 hq10813 hq10815 hq10817 hq10819 hq10821 hq10823)
    refine th_cSv (As := [.ref a10822, .int 0]) (rest := []) (n := 2) (d := 0) ⟨hx, hb, hml, hown, hts⟩ (c_J7_fill_53178 l E D G a10822 (24) hq10823 (by omega) 0) wd_540 wd_541 wd_15 wd_542 (by decide +kernel) ⟨by rw [hR]; exact Nat.le_of_ble_eq_true rfl, by rw [hR]; exact Nat.le_of_ble_eq_true rfl⟩ hI hN hK hS rfl hl.1 rfl (Nat.le_of_ble_eq_true rfl) dX7_refresh_42 ⟨Nat.zero_le _, Nat.zero_le _⟩ (fun H locs hI hS => ?_)
    refine lv_iconst (v := 0) hx hb dX7_refresh_45 (by decide) ?_
    refine lv_istore_n (lv' := [(1, .int 0), (0, .ref h0)]) hx hb dX7_refresh_46 rfl hl (by decide) rfl (fun ls hl => ?_)
    have zl : (0 : Int32).toInt = 0 := by decide
    exact J_47 _ H locs ls 0 rfl (lv_sub hl [0, 1] rfl) ⟨by decide, by decide⟩ hI hS
  · skip
    have k10826 := iv_eq (X := w10778.toInt) (Y := (0)) rfl (by decide) c10781
    have hI := th_I.close hI hG0 hO (ok_9 hq10767 hq10769 hq10771 hq10773 hq10775 hq10777)
    rw [hQ]
    exact W.vret hx hb hr (fun t ht hW => ⟨⟨(), rfl, trivial, by rw [ht]; exact hI, hN.warm hW, va_K.moved hW.alike hK⟩, hS.F ht⟩) hS.2.2 dX7_refresh_7
theorem dX7_walk_0 : decode cX7_walk 0 = .ok (.iload_n 2, 1) := by decide +kernel
theorem dX7_walk_1 : decode cX7_walk 1 = .ok (.invokestatic 47, 3) := by decide +kernel
theorem dX7_walk_4 : decode cX7_walk 4 = .ok (.ifCond .eq 12, 3) := by decide +kernel
theorem dX7_walk_7 : decode cX7_walk 7 = .ok (.aload_n 0, 1) := by decide +kernel
theorem dX7_walk_8 : decode cX7_walk 8 = .ok (.getfield 25, 3) := by decide +kernel
theorem dX7_walk_11 : decode cX7_walk 11 = .ok (.iload_n 2, 1) := by decide +kernel
theorem dX7_walk_12 : decode cX7_walk 12 = .ok (.iaload, 1) := by decide +kernel
theorem dX7_walk_13 : decode cX7_walk 13 = .ok (.goto 4, 3) := by decide +kernel
theorem dX7_walk_16 : decode cX7_walk 16 = .ok (.iconst 0, 1) := by decide +kernel
theorem dX7_walk_17 : decode cX7_walk 17 = .ok (.istore 4, 2) := by decide +kernel
theorem dX7_walk_19 : decode cX7_walk 19 = .ok (.iload_n 1, 1) := by decide +kernel
theorem dX7_walk_20 : decode cX7_walk 20 = .ok (.istore 5, 2) := by decide +kernel
theorem dX7_walk_22 : decode cX7_walk 22 = .ok (.iconst 0, 1) := by decide +kernel
theorem dX7_walk_23 : decode cX7_walk 23 = .ok (.istore 6, 2) := by decide +kernel
theorem dX7_walk_25 : decode cX7_walk 25 = .ok (.iload 6, 2) := by decide +kernel
theorem dX7_walk_27 : decode cX7_walk 27 = .ok (.iload_n 3, 1) := by decide +kernel
theorem dX7_walk_28 : decode cX7_walk 28 = .ok (.if_icmp .ge 29, 3) := by decide +kernel
theorem dX7_walk_31 : decode cX7_walk 31 = .ok (.iload 5, 2) := by decide +kernel
theorem dX7_walk_33 : decode cX7_walk 33 = .ok (.bipush 24, 2) := by decide +kernel
theorem dX7_walk_35 : decode cX7_walk 35 = .ok (.if_icmp .ge 22, 3) := by decide +kernel
theorem dX7_walk_38 : decode cX7_walk 38 = .ok (.iload 4, 2) := by decide +kernel
theorem dX7_walk_40 : decode cX7_walk 40 = .ok (.iload 5, 2) := by decide +kernel
theorem dX7_walk_42 : decode cX7_walk 42 = .ok (.ishr, 1) := by decide +kernel
theorem dX7_walk_43 : decode cX7_walk 43 = .ok (.iconst 1, 1) := by decide +kernel
theorem dX7_walk_44 : decode cX7_walk 44 = .ok (.iand, 1) := by decide +kernel
theorem dX7_walk_45 : decode cX7_walk 45 = .ok (.ifCond .ne 12, 3) := by decide +kernel
theorem dX7_walk_48 : decode cX7_walk 48 = .ok (.iinc 5 1, 3) := by decide +kernel
theorem dX7_walk_51 : decode cX7_walk 51 = .ok (.iinc 6 1, 3) := by decide +kernel
theorem dX7_walk_54 : decode cX7_walk 54 = .ok (.goto (-29), 3) := by decide +kernel
theorem dX7_walk_57 : decode cX7_walk 57 = .ok (.iconst 0, 1) := by decide +kernel
theorem dX7_walk_58 : decode cX7_walk 58 = .ok (.istore 6, 2) := by decide +kernel
theorem dX7_walk_60 : decode cX7_walk 60 = .ok (.iload 6, 2) := by decide +kernel
theorem dX7_walk_62 : decode cX7_walk 62 = .ok (.iload_n 3, 1) := by decide +kernel
theorem dX7_walk_63 : decode cX7_walk 63 = .ok (.if_icmp .le 29, 3) := by decide +kernel
theorem dX7_walk_66 : decode cX7_walk 66 = .ok (.iload 5, 2) := by decide +kernel
theorem dX7_walk_68 : decode cX7_walk 68 = .ok (.ifCond .le 24, 3) := by decide +kernel
theorem dX7_walk_71 : decode cX7_walk 71 = .ok (.iload 4, 2) := by decide +kernel
theorem dX7_walk_73 : decode cX7_walk 73 = .ok (.iload 5, 2) := by decide +kernel
theorem dX7_walk_75 : decode cX7_walk 75 = .ok (.iconst 1, 1) := by decide +kernel
theorem dX7_walk_76 : decode cX7_walk 76 = .ok (.isub, 1) := by decide +kernel
theorem dX7_walk_77 : decode cX7_walk 77 = .ok (.ishr, 1) := by decide +kernel
theorem dX7_walk_78 : decode cX7_walk 78 = .ok (.iconst 1, 1) := by decide +kernel
theorem dX7_walk_79 : decode cX7_walk 79 = .ok (.iand, 1) := by decide +kernel
theorem dX7_walk_80 : decode cX7_walk 80 = .ok (.ifCond .ne 12, 3) := by decide +kernel
theorem dX7_walk_83 : decode cX7_walk 83 = .ok (.iinc 5 (-1), 3) := by decide +kernel
theorem dX7_walk_86 : decode cX7_walk 86 = .ok (.iinc 6 (-1), 3) := by decide +kernel
theorem dX7_walk_89 : decode cX7_walk 89 = .ok (.goto (-29), 3) := by decide +kernel
theorem dX7_walk_92 : decode cX7_walk 92 = .ok (.iload 5, 2) := by decide +kernel
theorem dX7_walk_94 : decode cX7_walk 94 = .ok (.ireturn, 1) := by decide +kernel
set_option maxHeartbeats 4000000 in
set_option maxRecDepth 100000 in
theorem c_X7_walk (l : Launch) (E : Nat → ClassId) (D : va_G) (G : th_G) (h0 : Nat) (hG0 : G h0 = some (9, 0)) (x1 x2 x3 : Int32) : Met l yX7_walk (tb (.code yX7_walk cX7_walk 7 (some .int))) (rm 1) (va_Pc [.ref h0, .int x1, .int x2, .int x3] (th_P E D G)) (QI E D G (fun r => True)) 0 0 (th_A G) := by
  refine Met.ofW (cc := cX7_walk) (maxL := 7) (ret := (some .int)) (by decide) rfl ?_
  intro p e s m args below meth c s₁ B hml hv
  obtain ⟨hav, hI, hN, hK⟩ := hv
  have hx := B.exec
  have hb := B.bytes
  have hr := B.returns
  have hts := atoms_spec (ws := tb (.code yX7_walk cX7_walk 7 (some .int))) B.pre
  have hown : s.vm.findClass RX7 = some m.cls := findClass_of_methodNamed B.named
  have hlocks := B.notSynchronized
  have hS : va_S (th_A G) s.heap s.heap [] := va_S.rf
  have hl := lv_entry ([.ref h0, .int x1, .int x2, .int x3]) (n := 7) (Nat.le_of_ble_eq_true rfl)
  rw [show entryFrame m args 7 = entryFrame m ([.ref h0, .int x1, .int x2, .int x3] : List Value).toArray 7 from by rw [hav], lg_entry_eq]
  generalize (lg_sl ([.ref h0, .int x1, .int x2, .int x3]) ++ List.replicate (7 - (lg_sl ([.ref h0, .int x1, .int x2, .int x3])).length) Slot.unset).toArray = ls at hl ⊢
  have hl : lv_has ls 7 [(0, .ref h0), (1, .int x1), (2, .int x2), (3, .int x3)] := hl
  generalize hR : (headSpec (tb (.code yX7_walk cX7_walk 7 (some .int))) (rm 1)).room = R
  have hR := hR.symm
  generalize hQ : MQ below (QI E D G (fun r => True)) args s 0 0 (th_A G) = QF
  have hQ := hQ.symm
  have J_60 : ∀ (nn : Nat) (H : Heap) (locs : List Loc) (ls : Array Slot) (v2425 : Int32) (v2426 : Int32) (v2427 : Int32), (Int.toNat (v2426.toInt - (0)) = nn) → lv_has ls 7 [(6, .int v2425), (5, .int v2426), (4, .int v2427), (0, .ref h0), (1, .int x1), (2, .int x2), (3, .int x3)] → (v2425.toInt ≤ 0) → th_I (okC E) D G [] H → va_S (th_A G) s.heap H locs → W p l e R s m args below meth c H locs 0 0 QF (F0 m 60 ls []) := by
    intro nn
    induction nn using Nat.strongRecOn with
    | ind nn ih_60 =>
      intro H locs ls v2425 v2426 v2427 hm hl k2428 hI hS
      refine lv_iload hx hb dX7_walk_60 (lv_at hl 0 rfl) ?_
      refine lv_iload_n hx hb dX7_walk_62 rfl (lv_at hl 6 rfl) ?_
      have k2429 := iv_lo v2425
      have k2430 := iv_hi v2425
      have k2431 := iv_lo x3
      have k2432 := iv_hi x3
      refine lv_icmp_le (tgt := 92) hx hb dX7_walk_63 (by decide) (fun c2433 => ?_) (fun c2433 => ?_)
      · skip
        have k2434 := iv_le (X := v2425.toInt) (Y := x3.toInt) rfl rfl c2433
        refine lv_iload hx hb dX7_walk_92 (lv_at hl 1 rfl) ?_
        have hpost : True := trivial
        rw [hQ]
        exact W.iret (v := v2426) hx hb hr (fun t ht hW => ⟨⟨v2426, (), rfl, hpost, by rw [ht]; exact hI, hN.warm hW, va_K.moved hW.alike hK⟩, hS.F ht⟩) hS.2.2 dX7_walk_94
      · skip
        have k2435 := iv_nle (X := v2425.toInt) (Y := x3.toInt) rfl rfl c2433
        refine lv_iload hx hb dX7_walk_66 (lv_at hl 1 rfl) ?_
        have k2436 := iv_lo v2426
        have k2437 := iv_hi v2426
        refine lv_if_le (tgt := 92) hx hb dX7_walk_68 (by decide) (fun c2438 => ?_) (fun c2438 => ?_)
        · skip
          have k2439 := iv_le (X := v2426.toInt) (Y := (0)) rfl (by decide) c2438
          refine lv_iload hx hb dX7_walk_92 (lv_at hl 1 rfl) ?_
          have hpost : True := trivial
          rw [hQ]
          exact W.iret (v := v2426) hx hb hr (fun t ht hW => ⟨⟨v2426, (), rfl, hpost, by rw [ht]; exact hI, hN.warm hW, va_K.moved hW.alike hK⟩, hS.F ht⟩) hS.2.2 dX7_walk_94
        · skip
          have k2440 := iv_nle (X := v2426.toInt) (Y := (0)) rfl (by decide) c2438
          refine lv_iload hx hb dX7_walk_71 (lv_at hl 2 rfl) ?_
          refine lv_iload hx hb dX7_walk_73 (lv_at hl 1 rfl) ?_
          refine lv_iconst (v := 1) hx hb dX7_walk_75 (by decide) ?_
          refine lv_isub hx hb dX7_walk_76 ?_
          refine lv_topi (fun v2441 e2442 => ?_)
          have tv2441 : v2441.toInt = v2426.toInt - (1) := iv_sub rfl (by decide) e2442 (by omega) (by omega)
          refine lv_ishr hx hb dX7_walk_77 ?_
          refine lv_topi (fun v2443 e2444 => ?_)
          refine lv_iconst (v := 1) hx hb dX7_walk_78 (by decide) ?_
          refine lv_iand hx hb dX7_walk_79 ?_
          refine lv_topi (fun v2445 e2446 => ?_)
          have tv2445 := iv_andr (m := 1) (M := 1) e2446 (by decide) (by decide)
          refine lv_if_ne (tgt := 92) hx hb dX7_walk_80 (by decide) (fun c2447 => ?_) (fun c2447 => ?_)
          · skip
            have k2448 := iv_ne (X := v2445.toInt) (Y := (0)) rfl (by decide) c2447
            refine lv_iload hx hb dX7_walk_92 (lv_at hl 1 rfl) ?_
            have hpost : True := trivial
            rw [hQ]
            exact W.iret (v := v2426) hx hb hr (fun t ht hW => ⟨⟨v2426, (), rfl, hpost, by rw [ht]; exact hI, hN.warm hW, va_K.moved hW.alike hK⟩, hS.F ht⟩) hS.2.2 dX7_walk_94
          · skip
            have k2449 := iv_eq (X := v2445.toInt) (Y := (0)) rfl (by decide) c2447
            obtain ⟨v2450, e2451⟩ : ∃ y : Int32, y = v2426 + (-1) := ⟨_, rfl⟩
            have tv2450 : v2450.toInt = v2426.toInt + (-1) := iv_add rfl (by decide) e2451 (by omega) (by omega)
            refine lv_iinc (v := v2450) (lv' := [(5, .int v2450), (6, .int v2425), (4, .int v2427), (0, .ref h0), (1, .int x1), (2, .int x2), (3, .int x3)]) hx hb dX7_walk_83 hl (k := 1) rfl (by rw [e2451]; rfl) (by decide) rfl (fun ls hl => ?_)
            obtain ⟨v2452, e2453⟩ : ∃ y : Int32, y = v2425 + (-1) := ⟨_, rfl⟩
            have tv2452 : v2452.toInt = v2425.toInt + (-1) := iv_add rfl (by decide) e2453 (by omega) (by omega)
            refine lv_iinc (v := v2452) (lv' := [(6, .int v2452), (5, .int v2450), (4, .int v2427), (0, .ref h0), (1, .int x1), (2, .int x2), (3, .int x3)]) hx hb dX7_walk_86 hl (k := 1) rfl (by rw [e2453]; rfl) (by decide) rfl (fun ls hl => ?_)
            refine lv_goto (tgt := 60) hx hb dX7_walk_89 (by decide) ?_
            exact ih_60 _ (by omega) H locs ls v2452 v2450 v2427 rfl (lv_sub hl [0, 1, 2, 3, 4, 5, 6] rfl) (by omega) hI hS
  have J_57 : ∀ (H : Heap) (locs : List Loc) (ls : Array Slot) (v2454 : Int32) (v2455 : Int32) (v2456 : Int32), lv_has ls 7 [(6, .int v2454), (5, .int v2455), (4, .int v2456), (0, .ref h0), (1, .int x1), (2, .int x2), (3, .int x3)] → ((0 : Int) ≤ v2454.toInt) → th_I (okC E) D G [] H → va_S (th_A G) s.heap H locs → W p l e R s m args below meth c H locs 0 0 QF (F0 m 57 ls []) := by
    intro H locs ls v2454 v2455 v2456 hl k2457 hI hS
    refine lv_iconst (v := 0) hx hb dX7_walk_57 (by decide) ?_
    refine lv_istore (lv' := [(6, .int 0), (5, .int v2455), (4, .int v2456), (0, .ref h0), (1, .int x1), (2, .int x2), (3, .int x3)]) hx hb dX7_walk_58 hl (by decide) rfl (fun ls hl => ?_)
    exact J_60 _ H locs ls 0 v2455 v2456 rfl (lv_sub hl [0, 1, 2, 3, 4, 5, 6] rfl) (by decide) hI hS
  have J_25 : ∀ (nn : Nat) (H : Heap) (locs : List Loc) (ls : Array Slot) (v2458 : Int32) (v2459 : Int32) (v2460 : Int32), (Int.toNat (24 - v2459.toInt) = nn) → lv_has ls 7 [(6, .int v2458), (5, .int v2459), (4, .int v2460), (0, .ref h0), (1, .int x1), (2, .int x2), (3, .int x3)] → ((0 : Int) ≤ v2458.toInt) → th_I (okC E) D G [] H → va_S (th_A G) s.heap H locs → W p l e R s m args below meth c H locs 0 0 QF (F0 m 25 ls []) := by
    intro nn
    induction nn using Nat.strongRecOn with
    | ind nn ih_25 =>
      intro H locs ls v2458 v2459 v2460 hm hl k2461 hI hS
      refine lv_iload hx hb dX7_walk_25 (lv_at hl 0 rfl) ?_
      refine lv_iload_n hx hb dX7_walk_27 rfl (lv_at hl 6 rfl) ?_
      have k2462 := iv_lo v2458
      have k2463 := iv_hi v2458
      have k2464 := iv_lo x3
      have k2465 := iv_hi x3
      refine lv_icmp_ge (tgt := 57) hx hb dX7_walk_28 (by decide) (fun c2466 => ?_) (fun c2466 => ?_)
      · skip
        have k2467 := iv_le (X := x3.toInt) (Y := v2458.toInt) rfl rfl c2466
        exact J_57 H locs ls v2458 v2459 v2460 (lv_sub hl [0, 1, 2, 3, 4, 5, 6] rfl) (by omega) hI hS
      · skip
        have k2468 := iv_nle (X := x3.toInt) (Y := v2458.toInt) rfl rfl c2466
        refine lv_iload hx hb dX7_walk_31 (lv_at hl 1 rfl) ?_
        refine lv_bipush (v := 24) hx hb dX7_walk_33 (by decide) ?_
        have k2469 := iv_lo v2459
        have k2470 := iv_hi v2459
        refine lv_icmp_ge (tgt := 57) hx hb dX7_walk_35 (by decide) (fun c2471 => ?_) (fun c2471 => ?_)
        · skip
          have k2472 := iv_le (X := (24)) (Y := v2459.toInt) (by decide) rfl c2471
          exact J_57 H locs ls v2458 v2459 v2460 (lv_sub hl [0, 1, 2, 3, 4, 5, 6] rfl) (by omega) hI hS
        · skip
          have k2473 := iv_nle (X := (24)) (Y := v2459.toInt) (by decide) rfl c2471
          refine lv_iload hx hb dX7_walk_38 (lv_at hl 2 rfl) ?_
          refine lv_iload hx hb dX7_walk_40 (lv_at hl 1 rfl) ?_
          refine lv_ishr hx hb dX7_walk_42 ?_
          refine lv_topi (fun v2474 e2475 => ?_)
          refine lv_iconst (v := 1) hx hb dX7_walk_43 (by decide) ?_
          refine lv_iand hx hb dX7_walk_44 ?_
          refine lv_topi (fun v2476 e2477 => ?_)
          have tv2476 := iv_andr (m := 1) (M := 1) e2477 (by decide) (by decide)
          refine lv_if_ne (tgt := 57) hx hb dX7_walk_45 (by decide) (fun c2478 => ?_) (fun c2478 => ?_)
          · skip
            have k2479 := iv_ne (X := v2476.toInt) (Y := (0)) rfl (by decide) c2478
            exact J_57 H locs ls v2458 v2459 v2460 (lv_sub hl [0, 1, 2, 3, 4, 5, 6] rfl) (by omega) hI hS
          · skip
            have k2480 := iv_eq (X := v2476.toInt) (Y := (0)) rfl (by decide) c2478
            obtain ⟨v2481, e2482⟩ : ∃ y : Int32, y = v2459 + (1) := ⟨_, rfl⟩
            have tv2481 : v2481.toInt = v2459.toInt + (1) := iv_add rfl (by decide) e2482 (by omega) (by omega)
            refine lv_iinc (v := v2481) (lv' := [(5, .int v2481), (6, .int v2458), (4, .int v2460), (0, .ref h0), (1, .int x1), (2, .int x2), (3, .int x3)]) hx hb dX7_walk_48 hl (k := 1) rfl (by rw [e2482]; rfl) (by decide) rfl (fun ls hl => ?_)
            obtain ⟨v2483, e2484⟩ : ∃ y : Int32, y = v2458 + (1) := ⟨_, rfl⟩
            have tv2483 : v2483.toInt = v2458.toInt + (1) := iv_add rfl (by decide) e2484 (by omega) (by omega)
            refine lv_iinc (v := v2483) (lv' := [(6, .int v2483), (5, .int v2481), (4, .int v2460), (0, .ref h0), (1, .int x1), (2, .int x2), (3, .int x3)]) hx hb dX7_walk_51 hl (k := 1) rfl (by rw [e2484]; rfl) (by decide) rfl (fun ls hl => ?_)
            refine lv_goto (tgt := 25) hx hb dX7_walk_54 (by decide) ?_
            exact ih_25 _ (by omega) H locs ls v2483 v2481 v2460 rfl (lv_sub hl [0, 1, 2, 3, 4, 5, 6] rfl) (by omega) hI hS
  have J_17 : ∀ (H : Heap) (locs : List Loc) (ls : Array Slot) (v2485 : Int32), lv_has ls 7 [(0, .ref h0), (1, .int x1), (2, .int x2), (3, .int x3)] → th_I (okC E) D G [] H → va_S (th_A G) s.heap H locs → W p l e R s m args below meth c H locs 0 0 QF (F0 m 17 ls [.int v2485]) := by
    intro H locs ls v2485 hl  hI hS
    refine lv_istore (lv' := [(4, .int v2485), (0, .ref h0), (1, .int x1), (2, .int x2), (3, .int x3)]) hx hb dX7_walk_17 hl (by decide) rfl (fun ls hl => ?_)
    refine lv_iload_n hx hb dX7_walk_19 rfl (lv_at hl 2 rfl) ?_
    refine lv_istore (lv' := [(5, .int x1), (4, .int v2485), (0, .ref h0), (1, .int x1), (2, .int x2), (3, .int x3)]) hx hb dX7_walk_20 hl (by decide) rfl (fun ls hl => ?_)
    refine lv_iconst (v := 0) hx hb dX7_walk_22 (by decide) ?_
    refine lv_istore (lv' := [(6, .int 0), (5, .int x1), (4, .int v2485), (0, .ref h0), (1, .int x1), (2, .int x2), (3, .int x3)]) hx hb dX7_walk_23 hl (by decide) rfl (fun ls hl => ?_)
    exact J_25 _ H locs ls 0 x1 v2485 rfl (lv_sub hl [0, 1, 2, 3, 4, 5, 6] rfl) (by decide) hI hS
  refine lv_iload_n hx hb dX7_walk_0 rfl (lv_at hl 2 rfl) ?_
  refine th_cSN (As := [.int x2]) (rest := []) (n := 1) (d := 0) ⟨hx, hb, hml, hown, hts⟩ (c_X11_isHour l s.heap x2) wn_535 wd_467 wd_1 wd_468 (by decide +kernel) ⟨by rw [hR]; exact Nat.le_of_ble_eq_true rfl, by rw [hR]; exact Nat.le_of_ble_eq_true rfl⟩ hN hS rfl hl.1 rfl (Nat.le_of_ble_eq_true rfl) dX7_walk_1 ⟨Nat.zero_le _, Nat.zero_le _⟩ (fun r2486 locs hp hS => ?_)
  rcases hp with ⟨rfl, hp⟩ | ⟨rfl, hp⟩
  · skip
    try simp only [rg, not_and, Int.not_le] at hp
    have hp2487 := hp
    refine lv_if_eq (tgt := 16) hx hb dX7_walk_4 (by decide) (fun c => absurd c (by decide)) (fun _ => ?_)
    refine lv_aload_n hx hb dX7_walk_7 rfl (lv_at hl 0 rfl) ?_
    obtain ⟨a2488, a2490, a2492, a2494, a2496, a2498, w2500, hO, hq2489, hq2491, hq2493, hq2495, hq2497, hq2499⟩ := op_9 hI hG0 List.not_mem_nil
    have hI := th_I.weak (a := h0) hI
    refine th_get hx hb hts inT7 hown hK hO rfl 4 (by decide) (hts _ (tb_c wd_193)) rfl rfl dX7_walk_8 ?_
    refine lv_iload_n hx hb dX7_walk_11 rfl (lv_at hl 2 rfl) ?_
    obtain ⟨_, hA2501⟩ := op_0 hI hq2497 (th_ne hG0 hq2497 (show (9 : Nat) ≠ 0 by decide))
    refine th_iald hx hb hK hA2501 0 rfl (iv_in (X := x2.toInt) rfl (by omega) (by omega)) dX7_walk_12 (fun v2502 _ => ?_)
    refine lv_goto (tgt := 17) hx hb dX7_walk_13 (by decide) ?_
    have hI := th_I.close hI hG0 hO (ok_9 hq2489 hq2491 hq2493 hq2495 hq2497 hq2499)
    exact J_17 s.heap locs ls v2502 (lv_sub hl [0, 1, 2, 3] rfl)  hI hS
  · skip
    try simp only [rg, not_and, Int.not_le] at hp
    have hp2503 := hp
    refine lv_if_eq (tgt := 16) hx hb dX7_walk_4 (by decide) (fun _ => ?_) (fun c => absurd c (by decide))
    refine lv_iconst (v := 0) hx hb dX7_walk_16 (by decide) ?_
    exact J_17 s.heap locs ls 0 (lv_sub hl [0, 1, 2, 3] rfl)  hI hS
