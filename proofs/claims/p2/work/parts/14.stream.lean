theorem wn_534 : (Cond.methodLinkNest RX7 (43 : Nat) yX11_isCell "NineRiver") ∈ lw_tbl := List.mem_append_right _ (List.mem_of_getElem? (i := 534) (by decide +kernel))
theorem wn_535 : (Cond.methodLinkNest RX7 (47 : Nat) yX11_isHour "NineRiver") ∈ lw_tbl := List.mem_append_right _ (List.mem_of_getElem? (i := 535) (by decide +kernel))
theorem wn_62 : (Cond.fieldLinkNest RX7 (126 : Nat) "NineRiver$State" "gates" "LNineRiver$Rows;" "NineRiver") ∈ lw_tbl := List.mem_append_right _ (List.mem_of_getElem? (i := 62) (by decide +kernel))
theorem wn_65 : (Cond.fieldLinkNest RX7 (139 : Nat) "NineRiver$State" "mills" "LNineRiver$Rows;" "NineRiver") ∈ lw_tbl := List.mem_append_right _ (List.mem_of_getElem? (i := 65) (by decide +kernel))
theorem wd_15 : (Cond.initialized RJ7) ∈ TB := tw 15 (by decide +kernel) (by decide +kernel)
theorem wd_189 : (Cond.fieldLink RX7 (35 : Nat) "NineRiver$Stream" "state" "LNineRiver$State;") ∈ TB := tw 189 (by decide +kernel) (by decide +kernel)
theorem wd_191 : (Cond.fieldLink RX7 (18 : Nat) "NineRiver$Stream" "ways" "[I") ∈ TB := tw 191 (by decide +kernel) (by decide +kernel)
theorem wd_192 : (Cond.fieldLink RX7 (22 : Nat) "NineRiver$Stream" "prices" "[I") ∈ TB := tw 192 (by decide +kernel) (by decide +kernel)
theorem wd_193 : (Cond.fieldLink RX7 (25 : Nat) "NineRiver$Stream" "shutGates" "[I") ∈ TB := tw 193 (by decide +kernel) (by decide +kernel)
theorem wd_194 : (Cond.fieldLink RX7 (28 : Nat) "NineRiver$Stream" "millsAt" "[I") ∈ TB := tw 194 (by decide +kernel) (by decide +kernel)
theorem wd_507 : (Jvm.Cond.instanceMethod yX4_size) ∈ TB := tw 507 (by decide +kernel) (by decide +kernel)
theorem wd_508 : (Cond.selects RX4 yX4_size yX4_size) ∈ TB := tw 508 (by decide +kernel) (by decide +kernel)
theorem wd_509 : (Cond.code yX4_size cX4_size 1 (Option.some Jvm.ClassFile.FieldType.int)) ∈ TB := tw 509 (by decide +kernel) (by decide +kernel)
theorem wd_519 : (Jvm.Cond.instanceMethod yX4_at) ∈ TB := tw 519 (by decide +kernel) (by decide +kernel)
theorem wd_520 : (Cond.selects RX4 yX4_at yX4_at) ∈ TB := tw 520 (by decide +kernel) (by decide +kernel)
theorem wd_521 : (Cond.code yX4_at cX4_at 3 (Option.some Jvm.ClassFile.FieldType.int)) ∈ TB := tw 521 (by decide +kernel) (by decide +kernel)
theorem wd_540 : (Cond.methodLink RX7 (120 : Nat) yJ7_fill_53178) ∈ TB := tw 540 (by decide +kernel) (by decide +kernel)
theorem wd_541 : (Jvm.Cond.static yJ7_fill_53178) ∈ TB := tw 541 (by decide +kernel) (by decide +kernel)
theorem wd_542 : (Cond.code yJ7_fill_53178 cJ7_fill_53178 4 (Option.none : Option Jvm.ClassFile.FieldType)) ∈ TB := tw 542 (by decide +kernel) (by decide +kernel)
theorem wd_543 : (Cond.methodLink RX7 (130 : Nat) yX4_size) ∈ TB := tw 543 (by decide +kernel) (by decide +kernel)
theorem wd_544 : (Cond.methodLink RX7 (136 : Nat) yX4_at) ∈ TB := tw 544 (by decide +kernel) (by decide +kernel)
theorem dJ7_fill_53178_0 : decode cJ7_fill_53178 0 = .ok (.iconst 0, 1) := by decide +kernel
theorem dJ7_fill_53178_1 : decode cJ7_fill_53178 1 = .ok (.istore_n 2, 1) := by decide +kernel
theorem dJ7_fill_53178_2 : decode cJ7_fill_53178 2 = .ok (.aload_n 0, 1) := by decide +kernel
theorem dJ7_fill_53178_3 : decode cJ7_fill_53178 3 = .ok (.arraylength, 1) := by decide +kernel
theorem dJ7_fill_53178_4 : decode cJ7_fill_53178 4 = .ok (.istore_n 3, 1) := by decide +kernel
theorem dJ7_fill_53178_5 : decode cJ7_fill_53178 5 = .ok (.iload_n 2, 1) := by decide +kernel
theorem dJ7_fill_53178_6 : decode cJ7_fill_53178 6 = .ok (.iload_n 3, 1) := by decide +kernel
theorem dJ7_fill_53178_7 : decode cJ7_fill_53178 7 = .ok (.if_icmp .ge 13, 3) := by decide +kernel
theorem dJ7_fill_53178_10 : decode cJ7_fill_53178 10 = .ok (.aload_n 0, 1) := by decide +kernel
theorem dJ7_fill_53178_11 : decode cJ7_fill_53178 11 = .ok (.iload_n 2, 1) := by decide +kernel
theorem dJ7_fill_53178_12 : decode cJ7_fill_53178 12 = .ok (.iload_n 1, 1) := by decide +kernel
theorem dJ7_fill_53178_13 : decode cJ7_fill_53178 13 = .ok (.iastore, 1) := by decide +kernel
theorem dJ7_fill_53178_14 : decode cJ7_fill_53178 14 = .ok (.iinc 2 1, 3) := by decide +kernel
theorem dJ7_fill_53178_17 : decode cJ7_fill_53178 17 = .ok (.goto (-12), 3) := by decide +kernel
theorem dJ7_fill_53178_20 : decode cJ7_fill_53178 20 = .ok (.return_, 1) := by decide +kernel
set_option maxHeartbeats 4000000 in
set_option maxRecDepth 100000 in
theorem c_J7_fill_53178 (l : Launch) (E : Nat → ClassId) (D : va_G) (G : th_G) (h0 n : Nat) (hG0 : G h0 = some (0, n)) (hn : n < 2147483648) (x1 : Int32) : Met l yJ7_fill_53178 (tb (.code yJ7_fill_53178 cJ7_fill_53178 4 none)) (rm 0) (va_Pc [.ref h0, .int x1] (th_P E D G)) (QV E D G) 0 0 (th_A G) := by
  refine Met.ofW (cc := cJ7_fill_53178) (maxL := 4) (ret := none) (by decide) rfl ?_
  intro p e s m args below meth c s₁ B hml hv
  obtain ⟨hav, hI, hN, hK⟩ := hv
  have hx := B.exec
  have hb := B.bytes
  have hr := B.returns
  have hts := atoms_spec (ws := tb (.code yJ7_fill_53178 cJ7_fill_53178 4 none)) B.pre
  have hown : s.vm.findClass RJ7 = some m.cls := findClass_of_methodNamed B.named
  have hlocks := B.notSynchronized
  have hS : va_S (th_A G) s.heap s.heap [] := va_S.rf
  have hl := lv_entry ([.ref h0, .int x1]) (n := 4) (Nat.le_of_ble_eq_true rfl)
  rw [show entryFrame m args 4 = entryFrame m ([.ref h0, .int x1] : List Value).toArray 4 from by rw [hav], lg_entry_eq]
  generalize (lg_sl ([.ref h0, .int x1]) ++ List.replicate (4 - (lg_sl ([.ref h0, .int x1])).length) Slot.unset).toArray = ls at hl ⊢
  have hl : lv_has ls 4 [(0, .ref h0), (1, .int x1)] := hl
  generalize hR : (headSpec (tb (.code yJ7_fill_53178 cJ7_fill_53178 4 none)) (rm 0)).room = R
  have hR := hR.symm
  generalize hQ : MQ below (QV E D G) args s 0 0 (th_A G) = QF
  have hQ := hQ.symm
  have J_5 : ∀ (nn : Nat) (H : Heap) (locs : List Loc) (ls : Array Slot) (v329 : Int32) (v330 : Int32), (Int.toNat (v329.toInt - v330.toInt) = nn) → lv_has ls 4 [(3, .int v329), (2, .int v330), (0, .ref h0), (1, .int x1)] → ((0 : Int) ≤ v329.toInt) → ((0 : Int) ≤ v330.toInt) → (v329.toInt = ((n : Nat) : Int)) → th_I (okC E) D G [] H → va_S (th_A G) s.heap H locs → W p l e R s m args below meth c H locs 0 0 QF (F0 m 5 ls []) := by
    intro nn
    induction nn using Nat.strongRecOn with
    | ind nn ih_5 =>
      intro H locs ls v329 v330 hm hl k331 k332 k333 hI hS
      refine lv_iload_n hx hb dJ7_fill_53178_5 rfl (lv_at hl 1 rfl) ?_
      refine lv_iload_n hx hb dJ7_fill_53178_6 rfl (lv_at hl 0 rfl) ?_
      have k334 := iv_lo v330
      have k335 := iv_hi v330
      have k336 := iv_lo v329
      have k337 := iv_hi v329
      refine lv_icmp_ge (tgt := 20) hx hb dJ7_fill_53178_7 (by decide) (fun c338 => ?_) (fun c338 => ?_)
      · skip
        have k339 := iv_le (X := v329.toInt) (Y := v330.toInt) rfl rfl c338
        rw [hQ]
        exact W.vret hx hb hr (fun t ht hW => ⟨⟨(), rfl, trivial, by rw [ht]; exact hI, hN.warm hW, va_K.moved hW.alike hK⟩, hS.F ht⟩) hS.2.2 dJ7_fill_53178_20
      · skip
        have k340 := iv_nle (X := v329.toInt) (Y := v330.toInt) rfl rfl c338
        refine lv_aload_n hx hb dJ7_fill_53178_10 rfl (lv_at hl 2 rfl) ?_
        refine lv_iload_n hx hb dJ7_fill_53178_11 rfl (lv_at hl 1 rfl) ?_
        refine lv_iload_n hx hb dJ7_fill_53178_12 rfl (lv_at hl 3 rfl) ?_
        obtain ⟨_, hA341⟩ := op_0 hI hG0 List.not_mem_nil
        refine th_iast hx hb hK hA341 0 rfl hS ⟨_, hG0⟩ (iv_in (X := v330.toInt) rfl (by omega) (by omega)) dJ7_fill_53178_13 (fun H locs hA341 oq hS => ?_)
        have hI := th_I.put hI hG0 hA341 ok_0 oq
        obtain ⟨v342, e343⟩ : ∃ y : Int32, y = v330 + (1) := ⟨_, rfl⟩
        have tv342 : v342.toInt = v330.toInt + (1) := iv_add rfl (by decide) e343 (by omega) (by omega)
        refine lv_iinc (v := v342) (lv' := [(2, .int v342), (3, .int v329), (0, .ref h0), (1, .int x1)]) hx hb dJ7_fill_53178_14 hl (k := 1) rfl (by rw [e343]; rfl) (by decide) rfl (fun ls hl => ?_)
        refine lv_goto (tgt := 5) hx hb dJ7_fill_53178_17 (by decide) ?_
        exact ih_5 _ (by omega) H locs ls v329 v342 rfl (lv_sub hl [1, 0, 2, 3] rfl) (by omega) (by omega) (by omega) hI hS
  refine lv_iconst (v := 0) hx hb dJ7_fill_53178_0 (by decide) ?_
  refine lv_istore_n (lv' := [(2, .int 0), (0, .ref h0), (1, .int x1)]) hx hb dJ7_fill_53178_1 rfl hl (by decide) rfl (fun ls hl => ?_)
  refine lv_aload_n hx hb dJ7_fill_53178_2 rfl (lv_at hl 1 rfl) ?_
  obtain ⟨_, hA344⟩ := op_0 hI hG0 List.not_mem_nil
  refine va_alen hx hb hK (th_one hA344) 0 0 rfl (v := nI (n)) rfl rfl dJ7_fill_53178_3 ?_
  refine lv_topi (fun v345 e346 => ?_)
  have tv345 : v345.toInt = ((n : Nat) : Int) := by rw [e346]; exact nI_toInt (by omega)
  refine lv_istore_n (lv' := [(3, .int v345), (2, .int 0), (0, .ref h0), (1, .int x1)]) hx hb dJ7_fill_53178_4 rfl hl (by decide) rfl (fun ls hl => ?_)
  have zl : (0 : Int32).toInt = 0 := by decide
  exact J_5 _ s.heap [] ls v345 0 rfl (lv_sub hl [0, 1, 2, 3] rfl) (by omega) (by decide) (by omega) hI hS
theorem dX7_refresh_0 : decode cX7_refresh 0 = .ok (.aload_n 0, 1) := by decide +kernel
theorem dX7_refresh_1 : decode cX7_refresh 1 = .ok (.getfield 31, 3) := by decide +kernel
theorem dX7_refresh_4 : decode cX7_refresh 4 = .ok (.ifCond .ne 4, 3) := by decide +kernel
theorem dX7_refresh_7 : decode cX7_refresh 7 = .ok (.return_, 1) := by decide +kernel
theorem dX7_refresh_8 : decode cX7_refresh 8 = .ok (.aload_n 0, 1) := by decide +kernel
theorem dX7_refresh_9 : decode cX7_refresh 9 = .ok (.iconst 0, 1) := by decide +kernel
theorem dX7_refresh_10 : decode cX7_refresh 10 = .ok (.putfield 31, 3) := by decide +kernel
theorem dX7_refresh_13 : decode cX7_refresh 13 = .ok (.aload_n 0, 1) := by decide +kernel
theorem dX7_refresh_14 : decode cX7_refresh 14 = .ok (.getfield 18, 3) := by decide +kernel
theorem dX7_refresh_17 : decode cX7_refresh 17 = .ok (.iconst 0, 1) := by decide +kernel
theorem dX7_refresh_18 : decode cX7_refresh 18 = .ok (.invokestatic 120, 3) := by decide +kernel
theorem dX7_refresh_21 : decode cX7_refresh 21 = .ok (.aload_n 0, 1) := by decide +kernel
theorem dX7_refresh_22 : decode cX7_refresh 22 = .ok (.getfield 22, 3) := by decide +kernel
theorem dX7_refresh_25 : decode cX7_refresh 25 = .ok (.iconst 0, 1) := by decide +kernel
theorem dX7_refresh_26 : decode cX7_refresh 26 = .ok (.invokestatic 120, 3) := by decide +kernel
theorem dX7_refresh_29 : decode cX7_refresh 29 = .ok (.aload_n 0, 1) := by decide +kernel
theorem dX7_refresh_30 : decode cX7_refresh 30 = .ok (.getfield 25, 3) := by decide +kernel
theorem dX7_refresh_33 : decode cX7_refresh 33 = .ok (.iconst 0, 1) := by decide +kernel
theorem dX7_refresh_34 : decode cX7_refresh 34 = .ok (.invokestatic 120, 3) := by decide +kernel
theorem dX7_refresh_37 : decode cX7_refresh 37 = .ok (.aload_n 0, 1) := by decide +kernel
theorem dX7_refresh_38 : decode cX7_refresh 38 = .ok (.getfield 28, 3) := by decide +kernel
theorem dX7_refresh_41 : decode cX7_refresh 41 = .ok (.iconst 0, 1) := by decide +kernel
theorem dX7_refresh_42 : decode cX7_refresh 42 = .ok (.invokestatic 120, 3) := by decide +kernel
theorem dX7_refresh_45 : decode cX7_refresh 45 = .ok (.iconst 0, 1) := by decide +kernel
theorem dX7_refresh_46 : decode cX7_refresh 46 = .ok (.istore_n 1, 1) := by decide +kernel
theorem dX7_refresh_47 : decode cX7_refresh 47 = .ok (.iload_n 1, 1) := by decide +kernel
theorem dX7_refresh_48 : decode cX7_refresh 48 = .ok (.aload_n 0, 1) := by decide +kernel
theorem dX7_refresh_49 : decode cX7_refresh 49 = .ok (.getfield 35, 3) := by decide +kernel
theorem dX7_refresh_52 : decode cX7_refresh 52 = .ok (.getfield 126, 3) := by decide +kernel
theorem dX7_refresh_55 : decode cX7_refresh 55 = .ok (.invokevirtual 130, 3) := by decide +kernel
theorem dX7_refresh_58 : decode cX7_refresh 58 = .ok (.if_icmp .ge 79, 3) := by decide +kernel
theorem dX7_refresh_61 : decode cX7_refresh 61 = .ok (.aload_n 0, 1) := by decide +kernel
theorem dX7_refresh_62 : decode cX7_refresh 62 = .ok (.getfield 35, 3) := by decide +kernel
theorem dX7_refresh_65 : decode cX7_refresh 65 = .ok (.getfield 126, 3) := by decide +kernel
theorem dX7_refresh_68 : decode cX7_refresh 68 = .ok (.iload_n 1, 1) := by decide +kernel
theorem dX7_refresh_69 : decode cX7_refresh 69 = .ok (.iconst 2, 1) := by decide +kernel
theorem dX7_refresh_70 : decode cX7_refresh 70 = .ok (.invokevirtual 136, 3) := by decide +kernel
theorem dX7_refresh_73 : decode cX7_refresh 73 = .ok (.istore_n 2, 1) := by decide +kernel
theorem dX7_refresh_74 : decode cX7_refresh 74 = .ok (.aload_n 0, 1) := by decide +kernel
theorem dX7_refresh_75 : decode cX7_refresh 75 = .ok (.getfield 35, 3) := by decide +kernel
theorem dX7_refresh_78 : decode cX7_refresh 78 = .ok (.getfield 126, 3) := by decide +kernel
theorem dX7_refresh_81 : decode cX7_refresh 81 = .ok (.iload_n 1, 1) := by decide +kernel
theorem dX7_refresh_82 : decode cX7_refresh 82 = .ok (.iconst 1, 1) := by decide +kernel
theorem dX7_refresh_83 : decode cX7_refresh 83 = .ok (.invokevirtual 136, 3) := by decide +kernel
theorem dX7_refresh_86 : decode cX7_refresh 86 = .ok (.istore_n 3, 1) := by decide +kernel
theorem dX7_refresh_87 : decode cX7_refresh 87 = .ok (.iload_n 3, 1) := by decide +kernel
theorem dX7_refresh_88 : decode cX7_refresh 88 = .ok (.ifCond .lt 43, 3) := by decide +kernel
theorem dX7_refresh_91 : decode cX7_refresh 91 = .ok (.iload_n 3, 1) := by decide +kernel
theorem dX7_refresh_92 : decode cX7_refresh 92 = .ok (.iload_n 2, 1) := by decide +kernel
theorem dX7_refresh_93 : decode cX7_refresh 93 = .ok (.if_icmp .gt 38, 3) := by decide +kernel
theorem dX7_refresh_96 : decode cX7_refresh 96 = .ok (.iload_n 3, 1) := by decide +kernel
theorem dX7_refresh_97 : decode cX7_refresh 97 = .ok (.bipush 96, 2) := by decide +kernel
theorem dX7_refresh_99 : decode cX7_refresh 99 = .ok (.if_icmp .ge 32, 3) := by decide +kernel
theorem dX7_refresh_102 : decode cX7_refresh 102 = .ok (.aload_n 0, 1) := by decide +kernel
theorem dX7_refresh_103 : decode cX7_refresh 103 = .ok (.getfield 25, 3) := by decide +kernel
theorem dX7_refresh_106 : decode cX7_refresh 106 = .ok (.iload_n 3, 1) := by decide +kernel
theorem dX7_refresh_107 : decode cX7_refresh 107 = .ok (.dup2, 1) := by decide +kernel
theorem dX7_refresh_108 : decode cX7_refresh 108 = .ok (.iaload, 1) := by decide +kernel
theorem dX7_refresh_109 : decode cX7_refresh 109 = .ok (.iconst 1, 1) := by decide +kernel
theorem dX7_refresh_110 : decode cX7_refresh 110 = .ok (.aload_n 0, 1) := by decide +kernel
theorem dX7_refresh_111 : decode cX7_refresh 111 = .ok (.getfield 35, 3) := by decide +kernel
theorem dX7_refresh_114 : decode cX7_refresh 114 = .ok (.getfield 126, 3) := by decide +kernel
theorem dX7_refresh_117 : decode cX7_refresh 117 = .ok (.iload_n 1, 1) := by decide +kernel
theorem dX7_refresh_118 : decode cX7_refresh 118 = .ok (.iconst 0, 1) := by decide +kernel
theorem dX7_refresh_119 : decode cX7_refresh 119 = .ok (.invokevirtual 136, 3) := by decide +kernel
theorem dX7_refresh_122 : decode cX7_refresh 122 = .ok (.ishl, 1) := by decide +kernel
theorem dX7_refresh_123 : decode cX7_refresh 123 = .ok (.ior, 1) := by decide +kernel
theorem dX7_refresh_124 : decode cX7_refresh 124 = .ok (.iastore, 1) := by decide +kernel
theorem dX7_refresh_125 : decode cX7_refresh 125 = .ok (.iinc 3 1, 3) := by decide +kernel
theorem dX7_refresh_128 : decode cX7_refresh 128 = .ok (.goto (-41), 3) := by decide +kernel
theorem dX7_refresh_131 : decode cX7_refresh 131 = .ok (.iinc 1 1, 3) := by decide +kernel
theorem dX7_refresh_134 : decode cX7_refresh 134 = .ok (.goto (-87), 3) := by decide +kernel
theorem dX7_refresh_137 : decode cX7_refresh 137 = .ok (.iconst 0, 1) := by decide +kernel
theorem dX7_refresh_138 : decode cX7_refresh 138 = .ok (.istore_n 1, 1) := by decide +kernel
theorem dX7_refresh_139 : decode cX7_refresh 139 = .ok (.iload_n 1, 1) := by decide +kernel
theorem dX7_refresh_140 : decode cX7_refresh 140 = .ok (.aload_n 0, 1) := by decide +kernel
theorem dX7_refresh_141 : decode cX7_refresh 141 = .ok (.getfield 35, 3) := by decide +kernel
theorem dX7_refresh_144 : decode cX7_refresh 144 = .ok (.getfield 139, 3) := by decide +kernel
theorem dX7_refresh_147 : decode cX7_refresh 147 = .ok (.invokevirtual 130, 3) := by decide +kernel
theorem dX7_refresh_150 : decode cX7_refresh 150 = .ok (.if_icmp .ge 39, 3) := by decide +kernel
theorem dX7_refresh_153 : decode cX7_refresh 153 = .ok (.aload_n 0, 1) := by decide +kernel
theorem dX7_refresh_154 : decode cX7_refresh 154 = .ok (.getfield 35, 3) := by decide +kernel
theorem dX7_refresh_157 : decode cX7_refresh 157 = .ok (.getfield 139, 3) := by decide +kernel
theorem dX7_refresh_160 : decode cX7_refresh 160 = .ok (.iload_n 1, 1) := by decide +kernel
theorem dX7_refresh_161 : decode cX7_refresh 161 = .ok (.iconst 0, 1) := by decide +kernel
theorem dX7_refresh_162 : decode cX7_refresh 162 = .ok (.invokevirtual 136, 3) := by decide +kernel
theorem dX7_refresh_165 : decode cX7_refresh 165 = .ok (.istore_n 2, 1) := by decide +kernel
theorem dX7_refresh_166 : decode cX7_refresh 166 = .ok (.iload_n 2, 1) := by decide +kernel
theorem dX7_refresh_167 : decode cX7_refresh 167 = .ok (.invokestatic 43, 3) := by decide +kernel
theorem dX7_refresh_170 : decode cX7_refresh 170 = .ok (.ifCond .eq 13, 3) := by decide +kernel
theorem dX7_refresh_173 : decode cX7_refresh 173 = .ok (.aload_n 0, 1) := by decide +kernel
theorem dX7_refresh_174 : decode cX7_refresh 174 = .ok (.getfield 28, 3) := by decide +kernel
theorem dX7_refresh_177 : decode cX7_refresh 177 = .ok (.iload_n 2, 1) := by decide +kernel
theorem dX7_refresh_178 : decode cX7_refresh 178 = .ok (.dup2, 1) := by decide +kernel
theorem dX7_refresh_179 : decode cX7_refresh 179 = .ok (.iaload, 1) := by decide +kernel
theorem dX7_refresh_180 : decode cX7_refresh 180 = .ok (.iconst 1, 1) := by decide +kernel
theorem dX7_refresh_181 : decode cX7_refresh 181 = .ok (.iadd, 1) := by decide +kernel
theorem dX7_refresh_182 : decode cX7_refresh 182 = .ok (.iastore, 1) := by decide +kernel
theorem dX7_refresh_183 : decode cX7_refresh 183 = .ok (.iinc 1 1, 3) := by decide +kernel
theorem dX7_refresh_186 : decode cX7_refresh 186 = .ok (.goto (-47), 3) := by decide +kernel
theorem dX7_refresh_189 : decode cX7_refresh 189 = .ok (.return_, 1) := by decide +kernel
set_option maxHeartbeats 4000000 in
set_option maxRecDepth 100000 in
theorem c_X7_refresh (l : Launch) (E : Nat → ClassId) (D : va_G) (G : th_G) (h0 : Nat) (hG0 : G h0 = some (9, 0)) : Met l yX7_refresh (tb (.code yX7_refresh cX7_refresh 4 none)) (rm 2) (va_Pc [.ref h0] (th_P E D G)) (QV E D G) 0 0 (th_A G) := by
  refine Met.ofW (cc := cX7_refresh) (maxL := 4) (ret := none) (by decide) rfl ?_
  intro p e s m args below meth c s₁ B hml hv
  obtain ⟨hav, hI, hN, hK⟩ := hv
  have hx := B.exec
  have hb := B.bytes
  have hr := B.returns
  have hts := atoms_spec (ws := tb (.code yX7_refresh cX7_refresh 4 none)) B.pre
  have hown : s.vm.findClass RX7 = some m.cls := findClass_of_methodNamed B.named
  have hlocks := B.notSynchronized
  have hS : va_S (th_A G) s.heap s.heap [] := va_S.rf
  have hl := lv_entry ([.ref h0]) (n := 4) (Nat.le_of_ble_eq_true rfl)
  rw [show entryFrame m args 4 = entryFrame m ([.ref h0] : List Value).toArray 4 from by rw [hav], lg_entry_eq]
  generalize (lg_sl ([.ref h0]) ++ List.replicate (4 - (lg_sl ([.ref h0])).length) Slot.unset).toArray = ls at hl ⊢
  have hl : lv_has ls 4 [(0, .ref h0)] := hl
  generalize hR : (headSpec (tb (.code yX7_refresh cX7_refresh 4 none)) (rm 2)).room = R
  have hR := hR.symm
  generalize hQ : MQ below (QV E D G) args s 0 0 (th_A G) = QF
  have hQ := hQ.symm
  have J_139 : ∀ (nn : Nat) (H : Heap) (locs : List Loc) (ls : Array Slot) (v8177 : Int32), (Int.toNat (6 - v8177.toInt) = nn) → lv_has ls 4 [(1, .int v8177), (0, .ref h0)] → ((0 : Int) ≤ v8177.toInt ∧ v8177.toInt ≤ 6) → th_I (okC E) D G [] H → va_S (th_A G) s.heap H locs → W p l e R s m args below meth c H locs 0 0 QF (F0 m 139 ls []) := by
    intro nn
    induction nn using Nat.strongRecOn with
    | ind nn ih_139 =>
      intro H locs ls v8177 hm hl k8178 hI hS
      refine lv_iload_n hx hb dX7_refresh_139 rfl (lv_at hl 0 rfl) ?_
      refine lv_aload_n hx hb dX7_refresh_140 rfl (lv_at hl 1 rfl) ?_
      obtain ⟨a8179, a8181, a8183, a8185, a8187, a8189, w8191, hO, hq8180, hq8182, hq8184, hq8186, hq8188, hq8190⟩ := op_9 hI hG0 List.not_mem_nil
      have hI := th_I.weak (a := h0) hI
      refine th_get hx hb hts inT7 hown hK hO rfl 0 (by decide) (hts _ (tb_c wd_189)) rfl rfl dX7_refresh_141 ?_
      have hI := th_I.close hI hG0 hO (ok_9 hq8180 hq8182 hq8184 hq8186 hq8188 hq8190)
      obtain ⟨a8192, a8194, a8196, a8198, a8200, a8202, a8204, a8206, a8208, a8210, w8212, w8215, w8216, w8217, hO, hq8193, hq8195, hq8197, hq8199, hq8201, hq8203, hq8205, hq8207, hq8209, hq8211, ⟨k8213, k8214⟩⟩ := op_6 hI hq8180 List.not_mem_nil
      have hI := th_I.weak (a := a8179) hI
      refine th_getN hx hb hts inT6 hown hK hN hO rfl 3 (by decide) wn_65 rfl rfl dX7_refresh_144 ?_
      have hI := th_I.close hI hq8180 hO (ok_6 hq8193 hq8195 hq8197 hq8199 hq8201 hq8203 hq8205 hq8207 hq8209 hq8211 ⟨by omega, by omega⟩)
      obtain ⟨a8219, w8221, hO, hq8220, ⟨k8222, k8223⟩, k8224⟩ := op_4 hI hq8199 List.not_mem_nil
      have hI := th_I.weak (a := a8198) hI
      have k8225 : (nI 6).toInt = ((6 : Nat) : Int) := nI_toInt (by omega)
      refine th_cVs (As := []) (rest := [.int v8177]) (n := 0) (d := 0) ⟨hx, hb, hml, hown, hts⟩ (c_X4_size l E D H a8198 6 a8219 w8221 hO (by omega) (by omega) (by omega)) wd_543 wd_507 wd_508 wd_3 wd_509 (by decide +kernel) ⟨by rw [hR]; exact Nat.le_of_ble_eq_true rfl, by rw [hR]; exact Nat.le_of_ble_eq_true rfl⟩ hN hK hS ⟨_, hO⟩ rfl rfl hl.1 rfl (Nat.le_of_ble_eq_true rfl) dX7_refresh_147 ⟨Nat.zero_le _, Nat.zero_le _⟩ (fun r8218 locs hp hS => ?_)
      have hp := hp.symm
      subst hp
      refine lv_icmp_ge (tgt := 189) hx hb dX7_refresh_150 (by decide) (fun c8226 => ?_) (fun c8226 => ?_)
      · skip
        have k8227 := iv_le (X := w8221.toInt) (Y := v8177.toInt) rfl rfl c8226
        have hI := th_I.close hI hq8199 hO (ok_4 hq8220 ⟨by omega, by omega⟩ (by omega))
        rw [hQ]
        exact W.vret hx hb hr (fun t ht hW => ⟨⟨(), rfl, trivial, by rw [ht]; exact hI, hN.warm hW, va_K.moved hW.alike hK⟩, hS.F ht⟩) hS.2.2 dX7_refresh_189
      · skip
        have k8228 := iv_nle (X := w8221.toInt) (Y := v8177.toInt) rfl rfl c8226
        refine lv_aload_n hx hb dX7_refresh_153 rfl (lv_at hl 1 rfl) ?_
        have hI := th_I.close hI hq8199 hO (ok_4 hq8220 ⟨by omega, by omega⟩ (by omega))
        obtain ⟨a8229, a8231, a8233, a8235, a8237, a8239, w8241, hO, hq8230, hq8232, hq8234, hq8236, hq8238, hq8240⟩ := op_9 hI hG0 List.not_mem_nil
        have hI := th_I.weak (a := h0) hI
        refine th_get hx hb hts inT7 hown hK hO rfl 0 (by decide) (hts _ (tb_c wd_189)) rfl rfl dX7_refresh_154 ?_
        have hI := th_I.close hI hG0 hO (ok_9 hq8230 hq8232 hq8234 hq8236 hq8238 hq8240)
        obtain ⟨a8242, a8244, a8246, a8248, a8250, a8252, a8254, a8256, a8258, a8260, w8262, w8265, w8266, w8267, hO, hq8243, hq8245, hq8247, hq8249, hq8251, hq8253, hq8255, hq8257, hq8259, hq8261, ⟨k8263, k8264⟩⟩ := op_6 hI hq8230 List.not_mem_nil
        have hI := th_I.weak (a := a8229) hI
        refine th_getN hx hb hts inT6 hown hK hN hO rfl 3 (by decide) wn_65 rfl rfl dX7_refresh_157 ?_
        refine lv_iload_n hx hb dX7_refresh_160 rfl (lv_at hl 0 rfl) ?_
        refine lv_iconst (v := 0) hx hb dX7_refresh_161 (by decide) ?_
        have hI := th_I.close hI hq8230 hO (ok_6 hq8243 hq8245 hq8247 hq8249 hq8251 hq8253 hq8255 hq8257 hq8259 hq8261 ⟨by omega, by omega⟩)
        refine th_cVi (As := [.int v8177, .int 0]) (rest := []) (n := 2) (d := 0) ⟨hx, hb, hml, hown, hts⟩ (c_X4_at l E D G a8248 (6) hq8249 v8177 0) wd_544 wd_519 wd_520 wd_3 wd_521 (by decide +kernel) ⟨by rw [hR]; exact Nat.le_of_ble_eq_true rfl, by rw [hR]; exact Nat.le_of_ble_eq_true rfl⟩ hI hN hK hS (rc_4 hI hq8249 List.not_mem_nil) rfl rfl hl.1 rfl (Nat.le_of_ble_eq_true rfl) dX7_refresh_162 ⟨Nat.zero_le _, Nat.zero_le _⟩ (fun r8268 H locs hp hI hS => ?_)
        refine lv_istore_n (lv' := [(2, .int r8268), (1, .int v8177), (0, .ref h0)]) hx hb dX7_refresh_165 rfl hl (by decide) rfl (fun ls hl => ?_)
        refine lv_iload_n hx hb dX7_refresh_166 rfl (lv_at hl 0 rfl) ?_
        refine th_cSN (As := [.int r8268]) (rest := []) (n := 1) (d := 0) ⟨hx, hb, hml, hown, hts⟩ (c_X11_isCell l H r8268) wn_534 wd_402 wd_1 wd_403 (by decide +kernel) ⟨by rw [hR]; exact Nat.le_of_ble_eq_true rfl, by rw [hR]; exact Nat.le_of_ble_eq_true rfl⟩ hN hS rfl hl.1 rfl (Nat.le_of_ble_eq_true rfl) dX7_refresh_167 ⟨Nat.zero_le _, Nat.zero_le _⟩ (fun r8269 locs hp hS => ?_)
        rcases hp with ⟨rfl, hp⟩ | ⟨rfl, hp⟩
        · skip
          try simp only [rg, not_and, Int.not_le] at hp
          have hp8270 := hp
          refine lv_if_eq (tgt := 183) hx hb dX7_refresh_170 (by decide) (fun c => absurd c (by decide)) (fun _ => ?_)
          refine lv_aload_n hx hb dX7_refresh_173 rfl (lv_at hl 2 rfl) ?_
          obtain ⟨a8271, a8273, a8275, a8277, a8279, a8281, w8283, hO, hq8272, hq8274, hq8276, hq8278, hq8280, hq8282⟩ := op_9 hI hG0 List.not_mem_nil
          have hI := th_I.weak (a := h0) hI
          refine th_get hx hb hts inT7 hown hK hO rfl 5 (by decide) (hts _ (tb_c wd_194)) rfl rfl dX7_refresh_174 ?_
          refine lv_iload_n hx hb dX7_refresh_177 rfl (lv_at hl 0 rfl) ?_
          refine lv_dup2_11 hx hb dX7_refresh_178 rfl rfl ?_
          obtain ⟨_, hA8284⟩ := op_0 hI hq8282 (th_ne hG0 hq8282 (show (9 : Nat) ≠ 0 by decide))
          refine th_iald hx hb hK hA8284 0 rfl (iv_in (X := r8268.toInt) rfl (by omega) (by omega)) dX7_refresh_179 (fun v8285 _ => ?_)
          refine lv_iconst (v := 1) hx hb dX7_refresh_180 (by decide) ?_
          refine lv_iadd hx hb dX7_refresh_181 ?_
          refine lv_topi (fun v8286 e8287 => ?_)
          try have tv8286 : v8286.toInt = v8285.toInt + (1) := iv_add rfl (by decide) e8287 (by omega) (by omega)
          obtain ⟨_, hA8288⟩ := op_0 hI hq8282 (th_ne hG0 hq8282 (show (9 : Nat) ≠ 0 by decide))
          refine th_iast hx hb hK hA8288 0 rfl hS ⟨_, hq8282⟩ (iv_in (X := r8268.toInt) rfl (by omega) (by omega)) dX7_refresh_182 (fun H locs hA8288 oq hS => ?_)
          have hI := th_I.put hI hq8282 hA8288 ok_0 oq
          have hO := hO.kept (oq _ (fun z => th_ne hG0 hq8282 (show (9 : Nat) ≠ 0 by decide) (List.mem_singleton.mpr z.symm)))
          obtain ⟨v8289, e8290⟩ : ∃ y : Int32, y = v8177 + (1) := ⟨_, rfl⟩
          have tv8289 : v8289.toInt = v8177.toInt + (1) := iv_add rfl (by decide) e8290 (by omega) (by omega)
          refine lv_iinc (v := v8289) (lv' := [(1, .int v8289), (2, .int r8268), (0, .ref h0)]) hx hb dX7_refresh_183 hl (k := 1) rfl (by rw [e8290]; rfl) (by decide) rfl (fun ls hl => ?_)
          refine lv_goto (tgt := 139) hx hb dX7_refresh_186 (by decide) ?_
          have hI := th_I.close hI hG0 hO (ok_9 hq8272 hq8274 hq8276 hq8278 hq8280 hq8282)
          exact ih_139 _ (by omega) H locs ls v8289 rfl (lv_sub hl [0, 2] rfl) ⟨by omega, by omega⟩ hI hS
        · skip
          try simp only [rg, not_and, Int.not_le] at hp
          have hp8291 := hp
          refine lv_if_eq (tgt := 183) hx hb dX7_refresh_170 (by decide) (fun _ => ?_) (fun c => absurd c (by decide))
          obtain ⟨v8292, e8293⟩ : ∃ y : Int32, y = v8177 + (1) := ⟨_, rfl⟩
          have tv8292 : v8292.toInt = v8177.toInt + (1) := iv_add rfl (by decide) e8293 (by omega) (by omega)
          refine lv_iinc (v := v8292) (lv' := [(1, .int v8292), (2, .int r8268), (0, .ref h0)]) hx hb dX7_refresh_183 hl (k := 1) rfl (by rw [e8293]; rfl) (by decide) rfl (fun ls hl => ?_)
          refine lv_goto (tgt := 139) hx hb dX7_refresh_186 (by decide) ?_
          exact ih_139 _ (by omega) H locs ls v8292 rfl (lv_sub hl [0, 2] rfl) ⟨by omega, by omega⟩ hI hS
  have J_47 : ∀ (nn : Nat) (H : Heap) (locs : List Loc) (ls : Array Slot) (v8294 : Int32), (Int.toNat (9 - v8294.toInt) = nn) → lv_has ls 4 [(1, .int v8294), (0, .ref h0)] → ((0 : Int) ≤ v8294.toInt ∧ v8294.toInt ≤ 9) → th_I (okC E) D G [] H → va_S (th_A G) s.heap H locs → W p l e R s m args below meth c H locs 0 0 QF (F0 m 47 ls []) := by
    intro nn
    induction nn using Nat.strongRecOn with
    | ind nn ih_47 =>
      intro H locs ls v8294 hm hl k8295 hI hS
      have J_131 : ∀ (H : Heap) (locs : List Loc) (ls : Array Slot) (v8296 : Int32) (v8297 : Int32), lv_has ls 4 [(3, .int v8296), (2, .int v8297), (1, .int v8294), (0, .ref h0)] → ((0 : Int) ≤ v8294.toInt ∧ v8294.toInt ≤ 8) → th_I (okC E) D G [] H → va_S (th_A G) s.heap H locs → W p l e R s m args below meth c H locs 0 0 QF (F0 m 131 ls []) := by
        intro H locs ls v8296 v8297 hl k8299 hI hS
        obtain ⟨v8300, e8301⟩ : ∃ y : Int32, y = v8294 + (1) := ⟨_, rfl⟩
        have tv8300 : v8300.toInt = v8294.toInt + (1) := iv_add rfl (by decide) e8301 (by omega) (by omega)
        refine lv_iinc (v := v8300) (lv' := [(1, .int v8300), (3, .int v8296), (2, .int v8297), (0, .ref h0)]) hx hb dX7_refresh_131 hl (k := 2) rfl (by rw [e8301]; rfl) (by decide) rfl (fun ls hl => ?_)
        refine lv_goto (tgt := 47) hx hb dX7_refresh_134 (by decide) ?_
        exact ih_47 _ (by omega) H locs ls v8300 rfl (lv_sub hl [0, 3] rfl) ⟨by omega, by omega⟩ hI hS
      have J_87 : ∀ (nn : Nat) (H : Heap) (locs : List Loc) (ls : Array Slot) (v8302 : Int32) (v8303 : Int32), (Int.toNat (96 - v8302.toInt) = nn) → lv_has ls 4 [(3, .int v8302), (2, .int v8303), (1, .int v8294), (0, .ref h0)] → ((0 : Int) ≤ v8294.toInt ∧ v8294.toInt ≤ 8) → th_I (okC E) D G [] H → va_S (th_A G) s.heap H locs → W p l e R s m args below meth c H locs 0 0 QF (F0 m 87 ls []) := by
        intro nn
        induction nn using Nat.strongRecOn with
        | ind nn ih_87 =>
          intro H locs ls v8302 v8303 hm hl k8305 hI hS
          refine lv_iload_n hx hb dX7_refresh_87 rfl (lv_at hl 0 rfl) ?_
          have k8306 := iv_lo v8302
          have k8307 := iv_hi v8302
          refine lv_if_lt (tgt := 131) hx hb dX7_refresh_88 (by decide) (fun c8308 => ?_) (fun c8308 => ?_)
          · skip
            have k8309 := iv_lt (X := v8302.toInt) (Y := (0)) rfl (by decide) c8308
            exact J_131 H locs ls v8302 v8303 (lv_sub hl [0, 1, 2, 3] rfl) ⟨by omega, by omega⟩ hI hS
          · skip
            have k8310 := iv_nlt (X := v8302.toInt) (Y := (0)) rfl (by decide) c8308
            refine lv_iload_n hx hb dX7_refresh_91 rfl (lv_at hl 0 rfl) ?_
            refine lv_iload_n hx hb dX7_refresh_92 rfl (lv_at hl 1 rfl) ?_
            have k8311 := iv_lo v8303
            have k8312 := iv_hi v8303
            refine lv_icmp_gt (tgt := 131) hx hb dX7_refresh_93 (by decide) (fun c8313 => ?_) (fun c8313 => ?_)
            · skip
              have k8314 := iv_lt (X := v8303.toInt) (Y := v8302.toInt) rfl rfl c8313
              exact J_131 H locs ls v8302 v8303 (lv_sub hl [0, 1, 2, 3] rfl) ⟨by omega, by omega⟩ hI hS
            · skip
              have k8315 := iv_nlt (X := v8303.toInt) (Y := v8302.toInt) rfl rfl c8313
              refine lv_iload_n hx hb dX7_refresh_96 rfl (lv_at hl 0 rfl) ?_
              refine lv_bipush (v := 96) hx hb dX7_refresh_97 (by decide) ?_
              refine lv_icmp_ge (tgt := 131) hx hb dX7_refresh_99 (by decide) (fun c8316 => ?_) (fun c8316 => ?_)
              · skip
                have k8317 := iv_le (X := (96)) (Y := v8302.toInt) (by decide) rfl c8316
                exact J_131 H locs ls v8302 v8303 (lv_sub hl [0, 1, 2, 3] rfl) ⟨by omega, by omega⟩ hI hS
              · skip
                have k8318 := iv_nle (X := (96)) (Y := v8302.toInt) (by decide) rfl c8316
                refine lv_aload_n hx hb dX7_refresh_102 rfl (lv_at hl 3 rfl) ?_
                obtain ⟨a8319, a8321, a8323, a8325, a8327, a8329, w8331, hO, hq8320, hq8322, hq8324, hq8326, hq8328, hq8330⟩ := op_9 hI hG0 List.not_mem_nil
                have hI := th_I.weak (a := h0) hI
                refine th_get hx hb hts inT7 hown hK hO rfl 4 (by decide) (hts _ (tb_c wd_193)) rfl rfl dX7_refresh_103 ?_
                refine lv_iload_n hx hb dX7_refresh_106 rfl (lv_at hl 0 rfl) ?_
                refine lv_dup2_11 hx hb dX7_refresh_107 rfl rfl ?_
                obtain ⟨_, hA8332⟩ := op_0 hI hq8328 (th_ne hG0 hq8328 (show (9 : Nat) ≠ 0 by decide))
                refine th_iald hx hb hK hA8332 0 rfl (iv_in (X := v8302.toInt) rfl (by omega) (by omega)) dX7_refresh_108 (fun v8333 _ => ?_)
                refine lv_iconst (v := 1) hx hb dX7_refresh_109 (by decide) ?_
                refine lv_aload_n hx hb dX7_refresh_110 rfl (lv_at hl 3 rfl) ?_
                refine th_get hx hb hts inT7 hown hK hO rfl 0 (by decide) (hts _ (tb_c wd_189)) rfl rfl dX7_refresh_111 ?_
                have hI := th_I.close hI hG0 hO (ok_9 hq8320 hq8322 hq8324 hq8326 hq8328 hq8330)
                obtain ⟨a8334, a8336, a8338, a8340, a8342, a8344, a8346, a8348, a8350, a8352, w8354, w8357, w8358, w8359, hO, hq8335, hq8337, hq8339, hq8341, hq8343, hq8345, hq8347, hq8349, hq8351, hq8353, ⟨k8355, k8356⟩⟩ := op_6 hI hq8320 List.not_mem_nil
                have hI := th_I.weak (a := a8319) hI
                refine th_getN hx hb hts inT6 hown hK hN hO rfl 2 (by decide) wn_62 rfl rfl dX7_refresh_114 ?_
                refine lv_iload_n hx hb dX7_refresh_117 rfl (lv_at hl 2 rfl) ?_
                refine lv_iconst (v := 0) hx hb dX7_refresh_118 (by decide) ?_
                have hI := th_I.close hI hq8320 hO (ok_6 hq8335 hq8337 hq8339 hq8341 hq8343 hq8345 hq8347 hq8349 hq8351 hq8353 ⟨by omega, by omega⟩)
                refine th_cVi (As := [.int v8294, .int 0]) (rest := [.int 1, .int v8333, .int v8302, .ref a8327]) (n := 2) (d := 0) ⟨hx, hb, hml, hown, hts⟩ (c_X4_at l E D G a8338 (8) hq8339 v8294 0) wd_544 wd_519 wd_520 wd_3 wd_521 (by decide +kernel) ⟨by rw [hR]; exact Nat.le_of_ble_eq_true rfl, by rw [hR]; exact Nat.le_of_ble_eq_true rfl⟩ hI hN hK hS (rc_4 hI hq8339 List.not_mem_nil) rfl rfl hl.1 rfl (Nat.le_of_ble_eq_true rfl) dX7_refresh_119 ⟨Nat.zero_le _, Nat.zero_le _⟩ (fun r8360 H locs hp hI hS => ?_)
                refine lv_ishl hx hb dX7_refresh_122 ?_
                refine lv_topi (fun v8361 e8362 => ?_)
                refine lv_ior hx hb dX7_refresh_123 ?_
                refine lv_topi (fun v8363 e8364 => ?_)
                obtain ⟨_, hA8365⟩ := op_0 hI hq8328 List.not_mem_nil
                refine th_iast hx hb hK hA8365 0 rfl hS ⟨_, hq8328⟩ (iv_in (X := v8302.toInt) rfl (by omega) (by omega)) dX7_refresh_124 (fun H locs hA8365 oq hS => ?_)
                have hI := th_I.put hI hq8328 hA8365 ok_0 oq
                obtain ⟨v8366, e8367⟩ : ∃ y : Int32, y = v8302 + (1) := ⟨_, rfl⟩
                have tv8366 : v8366.toInt = v8302.toInt + (1) := iv_add rfl (by decide) e8367 (by omega) (by omega)
                refine lv_iinc (v := v8366) (lv' := [(3, .int v8366), (2, .int v8303), (1, .int v8294), (0, .ref h0)]) hx hb dX7_refresh_125 hl (k := 0) rfl (by rw [e8367]; rfl) (by decide) rfl (fun ls hl => ?_)
                refine lv_goto (tgt := 87) hx hb dX7_refresh_128 (by decide) ?_
                exact ih_87 _ (by omega) H locs ls v8366 v8303 rfl (lv_sub hl [0, 1, 2, 3] rfl) ⟨by omega, by omega⟩ hI hS
      refine lv_iload_n hx hb dX7_refresh_47 rfl (lv_at hl 0 rfl) ?_
      refine lv_aload_n hx hb dX7_refresh_48 rfl (lv_at hl 1 rfl) ?_
      obtain ⟨a8368, a8370, a8372, a8374, a8376, a8378, w8380, hO, hq8369, hq8371, hq8373, hq8375, hq8377, hq8379⟩ := op_9 hI hG0 List.not_mem_nil
      have hI := th_I.weak (a := h0) hI
      refine th_get hx hb hts inT7 hown hK hO rfl 0 (by decide) (hts _ (tb_c wd_189)) rfl rfl dX7_refresh_49 ?_
      have hI := th_I.close hI hG0 hO (ok_9 hq8369 hq8371 hq8373 hq8375 hq8377 hq8379)
      obtain ⟨a8381, a8383, a8385, a8387, a8389, a8391, a8393, a8395, a8397, a8399, w8401, w8404, w8405, w8406, hO, hq8382, hq8384, hq8386, hq8388, hq8390, hq8392, hq8394, hq8396, hq8398, hq8400, ⟨k8402, k8403⟩⟩ := op_6 hI hq8369 List.not_mem_nil
      have hI := th_I.weak (a := a8368) hI
      refine th_getN hx hb hts inT6 hown hK hN hO rfl 2 (by decide) wn_62 rfl rfl dX7_refresh_52 ?_
      have hI := th_I.close hI hq8369 hO (ok_6 hq8382 hq8384 hq8386 hq8388 hq8390 hq8392 hq8394 hq8396 hq8398 hq8400 ⟨by omega, by omega⟩)
      obtain ⟨a8408, w8410, hO, hq8409, ⟨k8411, k8412⟩, k8413⟩ := op_4 hI hq8386 List.not_mem_nil
      have hI := th_I.weak (a := a8385) hI
      have k8414 : (nI 8).toInt = ((8 : Nat) : Int) := nI_toInt (by omega)
      refine th_cVs (As := []) (rest := [.int v8294]) (n := 0) (d := 0) ⟨hx, hb, hml, hown, hts⟩ (c_X4_size l E D H a8385 8 a8408 w8410 hO (by omega) (by omega) (by omega)) wd_543 wd_507 wd_508 wd_3 wd_509 (by decide +kernel) ⟨by rw [hR]; exact Nat.le_of_ble_eq_true rfl, by rw [hR]; exact Nat.le_of_ble_eq_true rfl⟩ hN hK hS ⟨_, hO⟩ rfl rfl hl.1 rfl (Nat.le_of_ble_eq_true rfl) dX7_refresh_55 ⟨Nat.zero_le _, Nat.zero_le _⟩ (fun r8407 locs hp hS => ?_)
      have hp := hp.symm
      subst hp
      refine lv_icmp_ge (tgt := 137) hx hb dX7_refresh_58 (by decide) (fun c8415 => ?_) (fun c8415 => ?_)
      · skip
        have k8416 := iv_le (X := w8410.toInt) (Y := v8294.toInt) rfl rfl c8415
        refine lv_iconst (v := 0) hx hb dX7_refresh_137 (by decide) ?_
        refine lv_istore_n (lv' := [(1, .int 0), (0, .ref h0)]) hx hb dX7_refresh_138 rfl hl (by decide) rfl (fun ls hl => ?_)
        have hI := th_I.close hI hq8386 hO (ok_4 hq8409 ⟨by omega, by omega⟩ (by omega))
        have zl : (0 : Int32).toInt = 0 := by decide
        exact J_139 _ H locs ls 0 rfl (lv_sub hl [0, 1] rfl) ⟨by decide, by decide⟩ hI hS
      · skip
        have k8417 := iv_nle (X := w8410.toInt) (Y := v8294.toInt) rfl rfl c8415
        refine lv_aload_n hx hb dX7_refresh_61 rfl (lv_at hl 1 rfl) ?_
        have hI := th_I.close hI hq8386 hO (ok_4 hq8409 ⟨by omega, by omega⟩ (by omega))
        obtain ⟨a8418, a8420, a8422, a8424, a8426, a8428, w8430, hO, hq8419, hq8421, hq8423, hq8425, hq8427, hq8429⟩ := op_9 hI hG0 List.not_mem_nil
        have hI := th_I.weak (a := h0) hI
        refine th_get hx hb hts inT7 hown hK hO rfl 0 (by decide) (hts _ (tb_c wd_189)) rfl rfl dX7_refresh_62 ?_
        have hI := th_I.close hI hG0 hO (ok_9 hq8419 hq8421 hq8423 hq8425 hq8427 hq8429)
        obtain ⟨a8431, a8433, a8435, a8437, a8439, a8441, a8443, a8445, a8447, a8449, w8451, w8454, w8455, w8456, hO, hq8432, hq8434, hq8436, hq8438, hq8440, hq8442, hq8444, hq8446, hq8448, hq8450, ⟨k8452, k8453⟩⟩ := op_6 hI hq8419 List.not_mem_nil
        have hI := th_I.weak (a := a8418) hI
        refine th_getN hx hb hts inT6 hown hK hN hO rfl 2 (by decide) wn_62 rfl rfl dX7_refresh_65 ?_
        refine lv_iload_n hx hb dX7_refresh_68 rfl (lv_at hl 0 rfl) ?_
        refine lv_iconst (v := 2) hx hb dX7_refresh_69 (by decide) ?_
        have hI := th_I.close hI hq8419 hO (ok_6 hq8432 hq8434 hq8436 hq8438 hq8440 hq8442 hq8444 hq8446 hq8448 hq8450 ⟨by omega, by omega⟩)
        refine th_cVi (As := [.int v8294, .int 2]) (rest := []) (n := 2) (d := 0) ⟨hx, hb, hml, hown, hts⟩ (c_X4_at l E D G a8435 (8) hq8436 v8294 2) wd_544 wd_519 wd_520 wd_3 wd_521 (by decide +kernel) ⟨by rw [hR]; exact Nat.le_of_ble_eq_true rfl, by rw [hR]; exact Nat.le_of_ble_eq_true rfl⟩ hI hN hK hS (rc_4 hI hq8436 List.not_mem_nil) rfl rfl hl.1 rfl (Nat.le_of_ble_eq_true rfl) dX7_refresh_70 ⟨Nat.zero_le _, Nat.zero_le _⟩ (fun r8457 H locs hp hI hS => ?_)
        refine lv_istore_n (lv' := [(2, .int r8457), (1, .int v8294), (0, .ref h0)]) hx hb dX7_refresh_73 rfl hl (by decide) rfl (fun ls hl => ?_)
        refine lv_aload_n hx hb dX7_refresh_74 rfl (lv_at hl 2 rfl) ?_
        obtain ⟨a8458, a8460, a8462, a8464, a8466, a8468, w8470, hO, hq8459, hq8461, hq8463, hq8465, hq8467, hq8469⟩ := op_9 hI hG0 List.not_mem_nil
        have hI := th_I.weak (a := h0) hI
        refine th_get hx hb hts inT7 hown hK hO rfl 0 (by decide) (hts _ (tb_c wd_189)) rfl rfl dX7_refresh_75 ?_
        have hI := th_I.close hI hG0 hO (ok_9 hq8459 hq8461 hq8463 hq8465 hq8467 hq8469)
        obtain ⟨a8471, a8473, a8475, a8477, a8479, a8481, a8483, a8485, a8487, a8489, w8491, w8494, w8495, w8496, hO, hq8472, hq8474, hq8476, hq8478, hq8480, hq8482, hq8484, hq8486, hq8488, hq8490, ⟨k8492, k8493⟩⟩ := op_6 hI hq8459 List.not_mem_nil
        have hI := th_I.weak (a := a8458) hI
        refine th_getN hx hb hts inT6 hown hK hN hO rfl 2 (by decide) wn_62 rfl rfl dX7_refresh_78 ?_
        refine lv_iload_n hx hb dX7_refresh_81 rfl (lv_at hl 1 rfl) ?_
        refine lv_iconst (v := 1) hx hb dX7_refresh_82 (by decide) ?_
        have hI := th_I.close hI hq8459 hO (ok_6 hq8472 hq8474 hq8476 hq8478 hq8480 hq8482 hq8484 hq8486 hq8488 hq8490 ⟨by omega, by omega⟩)
        refine th_cVi (As := [.int v8294, .int 1]) (rest := []) (n := 2) (d := 0) ⟨hx, hb, hml, hown, hts⟩ (c_X4_at l E D G a8475 (8) hq8476 v8294 1) wd_544 wd_519 wd_520 wd_3 wd_521 (by decide +kernel) ⟨by rw [hR]; exact Nat.le_of_ble_eq_true rfl, by rw [hR]; exact Nat.le_of_ble_eq_true rfl⟩ hI hN hK hS (rc_4 hI hq8476 List.not_mem_nil) rfl rfl hl.1 rfl (Nat.le_of_ble_eq_true rfl) dX7_refresh_83 ⟨Nat.zero_le _, Nat.zero_le _⟩ (fun r8497 H locs hp hI hS => ?_)
        refine lv_istore_n (lv' := [(3, .int r8497), (2, .int r8457), (1, .int v8294), (0, .ref h0)]) hx hb dX7_refresh_86 rfl hl (by decide) rfl (fun ls hl => ?_)
        exact J_87 _ H locs ls r8497 r8457 rfl (lv_sub hl [0, 1, 2, 3] rfl) ⟨by omega, by omega⟩ hI hS
  refine lv_aload_n hx hb dX7_refresh_0 rfl (lv_at hl 0 rfl) ?_
  obtain ⟨a8498, a8500, a8502, a8504, a8506, a8508, w8510, hO, hq8499, hq8501, hq8503, hq8505, hq8507, hq8509⟩ := op_9 hI hG0 List.not_mem_nil
  have hI := th_I.weak (a := h0) hI
  refine th_get hx hb hts inT7 hown hK hO rfl 6 (by decide) (hts _ (tb_c wd_195)) rfl rfl dX7_refresh_1 ?_
  have k8511 := iv_lo w8510
  have k8512 := iv_hi w8510
  refine lv_if_ne (tgt := 8) hx hb dX7_refresh_4 (by decide) (fun c8513 => ?_) (fun c8513 => ?_)
  · skip
    have k8514 := iv_ne (X := w8510.toInt) (Y := (0)) rfl (by decide) c8513
    refine lv_aload_n hx hb dX7_refresh_8 rfl (lv_at hl 0 rfl) ?_
    refine lv_iconst (v := 0) hx hb dX7_refresh_9 (by decide) ?_
    refine th_put (ty := .boolean) hx hb hts inT7 tyX7 tyX7_ok nmX7 hown hK hO hS ⟨_, hG0⟩ rfl 6 (by decide) (hts _ (tb_c wd_195)) rfl rfl (by decide +kernel) (by decide) rfl (Nat.le_of_ble_eq_true rfl) dX7_refresh_10 (fun H locs hO oq hS => ?_)
    have hI := th_I.moved hI oq
    have hO : va_at D vwCl (h0, .inr (7, [.ref a8498, .ref a8500, .ref a8502, .ref a8504, .ref a8506, .ref a8508, .int 0])) H := hO
    refine lv_aload_n hx hb dX7_refresh_13 rfl (lv_at hl 0 rfl) ?_
    refine th_get hx hb hts inT7 hown hK hO rfl 2 (by decide) (hts _ (tb_c wd_191)) rfl rfl dX7_refresh_14 ?_
    refine lv_iconst (v := 0) hx hb dX7_refresh_17 (by decide) ?_
    have hI := th_I.close hI hG0 hO (ok_9 hq8499 hq8501 hq8503 hq8505 hq8507 hq8509)
    refine th_cSv (As := [.ref a8502, .int 0]) (rest := []) (n := 2) (d := 0) ⟨hx, hb, hml, hown, hts⟩ (c_J7_fill_53178 l E D G a8502 (2304) hq8503 (by omega) 0) wd_540 wd_541 wd_15 wd_542 (by decide +kernel) ⟨by rw [hR]; exact Nat.le_of_ble_eq_true rfl, by rw [hR]; exact Nat.le_of_ble_eq_true rfl⟩ hI hN hK hS rfl hl.1 rfl (Nat.le_of_ble_eq_true rfl) dX7_refresh_18 ⟨Nat.zero_le _, Nat.zero_le _⟩ (fun H locs hI hS => ?_)
    refine lv_aload_n hx hb dX7_refresh_21 rfl (lv_at hl 0 rfl) ?_
    obtain ⟨a8516, a8518, a8520, a8522, a8524, a8526, w8528, hO, hq8517, hq8519, hq8521, hq8523, hq8525, hq8527⟩ := op_9 hI hG0 List.not_mem_nil
    have hI := th_I.weak (a := h0) hI
    refine th_get hx hb hts inT7 hown hK hO rfl 3 (by decide) (hts _ (tb_c wd_192)) rfl rfl dX7_refresh_22 ?_
    refine lv_iconst (v := 0) hx hb dX7_refresh_25 (by decide) ?_
    have hI := th_I.close hI hG0 hO (ok_9 hq8517 hq8519 hq8521 hq8523 hq8525 hq8527)
    refine th_cSv (As := [.ref a8522, .int 0]) (rest := []) (n := 2) (d := 0) ⟨hx, hb, hml, hown, hts⟩ (c_J7_fill_53178 l E D G a8522 (2304) hq8523 (by omega) 0) wd_540 wd_541 wd_15 wd_542 (by decide +kernel) ⟨by rw [hR]; exact Nat.le_of_ble_eq_true rfl, by rw [hR]; exact Nat.le_of_ble_eq_true rfl⟩ hI hN hK hS rfl hl.1 rfl (Nat.le_of_ble_eq_true rfl) dX7_refresh_26 ⟨Nat.zero_le _, Nat.zero_le _⟩ (fun H locs hI hS => ?_)
    refine lv_aload_n hx hb dX7_refresh_29 rfl (lv_at hl 0 rfl) ?_
    obtain ⟨a8530, a8532, a8534, a8536, a8538, a8540, w8542, hO, hq8531, hq8533, hq8535, hq8537, hq8539, hq8541⟩ := op_9 hI hG0 List.not_mem_nil
    have hI := th_I.weak (a := h0) hI
    refine th_get hx hb hts inT7 hown hK hO rfl 4 (by decide) (hts _ (tb_c wd_193)) rfl rfl dX7_refresh_30 ?_
    refine lv_iconst (v := 0) hx hb dX7_refresh_33 (by decide) ?_
    have hI := th_I.close hI hG0 hO (ok_9 hq8531 hq8533 hq8535 hq8537 hq8539 hq8541)
    refine th_cSv (As := [.ref a8538, .int 0]) (rest := []) (n := 2) (d := 0) ⟨hx, hb, hml, hown, hts⟩ (c_J7_fill_53178 l E D G a8538 (96) hq8539 (by omega) 0) wd_540 wd_541 wd_15 wd_542 (by decide +kernel) ⟨by rw [hR]; exact Nat.le_of_ble_eq_true rfl, by rw [hR]; exact Nat.le_of_ble_eq_true rfl⟩ hI hN hK hS rfl hl.1 rfl (Nat.le_of_ble_eq_true rfl) dX7_refresh_34 ⟨Nat.zero_le _, Nat.zero_le _⟩ (fun H locs hI hS => ?_)
    refine lv_aload_n hx hb dX7_refresh_37 rfl (lv_at hl 0 rfl) ?_
    obtain ⟨a8544, a8546, a8548, a8550, a8552, a8554, w8556, hO, hq8545, hq8547, hq8549, hq8551, hq8553, hq8555⟩ := op_9 hI hG0 List.not_mem_nil
    have hI := th_I.weak (a := h0) hI
    refine th_get hx hb hts inT7 hown hK hO rfl 5 (by decide) (hts _ (tb_c wd_194)) rfl rfl dX7_refresh_38 ?_
    refine lv_iconst (v := 0) hx hb dX7_refresh_41 (by decide) ?_
    have hI := th_I.close hI hG0 hO (ok_9 hq8545 hq8547 hq8549 hq8551 hq8553 hq8555)
    refine th_cSv (As := [.ref a8554, .int 0]) (rest := []) (n := 2) (d := 0) ⟨hx, hb, hml, hown, hts⟩ (c_J7_fill_53178 l E D G a8554 (24) hq8555 (by omega) 0) wd_540 wd_541 wd_15 wd_542 (by decide +kernel) ⟨by rw [hR]; exact Nat.le_of_ble_eq_true rfl, by rw [hR]; exact Nat.le_of_ble_eq_true rfl⟩ hI hN hK hS rfl hl.1 rfl (Nat.le_of_ble_eq_true rfl) dX7_refresh_42 ⟨Nat.zero_le _, Nat.zero_le _⟩ (fun H locs hI hS => ?_)
    refine lv_iconst (v := 0) hx hb dX7_refresh_45 (by decide) ?_
    refine lv_istore_n (lv' := [(1, .int 0), (0, .ref h0)]) hx hb dX7_refresh_46 rfl hl (by decide) rfl (fun ls hl => ?_)
    have zl : (0 : Int32).toInt = 0 := by decide
    exact J_47 _ H locs ls 0 rfl (lv_sub hl [0, 1] rfl) ⟨by decide, by decide⟩ hI hS
  · skip
    have k8558 := iv_eq (X := w8510.toInt) (Y := (0)) rfl (by decide) c8513
    have hI := th_I.close hI hG0 hO (ok_9 hq8499 hq8501 hq8503 hq8505 hq8507 hq8509)
    rw [hQ]
    exact W.vret hx hb hr (fun t ht hW => ⟨⟨(), rfl, trivial, by rw [ht]; exact hI, hN.warm hW, va_K.moved hW.alike hK⟩, hS.F ht⟩) hS.2.2 dX7_refresh_7
theorem dX7_walk_0 : decode cX7_walk 0 = .ok (.iload_n 2, 1) := by decide +kernel
theorem dX7_walk_1 : decode cX7_walk 1 = .ok (.invokestatic 47, 3) := by decide +kernel
theorem dX7_walk_4 : decode cX7_walk 4 = .ok (.ifCond .eq 12, 3) := by decide +kernel
theorem dX7_walk_7 : decode cX7_walk 7 = .ok (.aload_n 0, 1) := by decide +kernel
theorem dX7_walk_8 : decode cX7_walk 8 = .ok (.getfield 25, 3) := by decide +kernel
theorem dX7_walk_11 : decode cX7_walk 11 = .ok (.iload_n 2, 1) := by decide +kernel
theorem dX7_walk_12 : decode cX7_walk 12 = .ok (.iaload, 1) := by decide +kernel
theorem dX7_walk_13 : decode cX7_walk 13 = .ok (.goto 4, 3) := by decide +kernel
theorem dX7_walk_16 : decode cX7_walk 16 = .ok (.iconst 0, 1) := by decide +kernel
theorem dX7_walk_17 : decode cX7_walk 17 = .ok (.istore 4, 2) := by decide +kernel
theorem dX7_walk_19 : decode cX7_walk 19 = .ok (.iload_n 1, 1) := by decide +kernel
theorem dX7_walk_20 : decode cX7_walk 20 = .ok (.istore 5, 2) := by decide +kernel
theorem dX7_walk_22 : decode cX7_walk 22 = .ok (.iconst 0, 1) := by decide +kernel
theorem dX7_walk_23 : decode cX7_walk 23 = .ok (.istore 6, 2) := by decide +kernel
theorem dX7_walk_25 : decode cX7_walk 25 = .ok (.iload 6, 2) := by decide +kernel
theorem dX7_walk_27 : decode cX7_walk 27 = .ok (.iload_n 3, 1) := by decide +kernel
theorem dX7_walk_28 : decode cX7_walk 28 = .ok (.if_icmp .ge 29, 3) := by decide +kernel
theorem dX7_walk_31 : decode cX7_walk 31 = .ok (.iload 5, 2) := by decide +kernel
theorem dX7_walk_33 : decode cX7_walk 33 = .ok (.bipush 24, 2) := by decide +kernel
theorem dX7_walk_35 : decode cX7_walk 35 = .ok (.if_icmp .ge 22, 3) := by decide +kernel
theorem dX7_walk_38 : decode cX7_walk 38 = .ok (.iload 4, 2) := by decide +kernel
theorem dX7_walk_40 : decode cX7_walk 40 = .ok (.iload 5, 2) := by decide +kernel
theorem dX7_walk_42 : decode cX7_walk 42 = .ok (.ishr, 1) := by decide +kernel
theorem dX7_walk_43 : decode cX7_walk 43 = .ok (.iconst 1, 1) := by decide +kernel
theorem dX7_walk_44 : decode cX7_walk 44 = .ok (.iand, 1) := by decide +kernel
theorem dX7_walk_45 : decode cX7_walk 45 = .ok (.ifCond .ne 12, 3) := by decide +kernel
theorem dX7_walk_48 : decode cX7_walk 48 = .ok (.iinc 5 1, 3) := by decide +kernel
theorem dX7_walk_51 : decode cX7_walk 51 = .ok (.iinc 6 1, 3) := by decide +kernel
theorem dX7_walk_54 : decode cX7_walk 54 = .ok (.goto (-29), 3) := by decide +kernel
theorem dX7_walk_57 : decode cX7_walk 57 = .ok (.iconst 0, 1) := by decide +kernel
theorem dX7_walk_58 : decode cX7_walk 58 = .ok (.istore 6, 2) := by decide +kernel
theorem dX7_walk_60 : decode cX7_walk 60 = .ok (.iload 6, 2) := by decide +kernel
theorem dX7_walk_62 : decode cX7_walk 62 = .ok (.iload_n 3, 1) := by decide +kernel
theorem dX7_walk_63 : decode cX7_walk 63 = .ok (.if_icmp .le 29, 3) := by decide +kernel
theorem dX7_walk_66 : decode cX7_walk 66 = .ok (.iload 5, 2) := by decide +kernel
theorem dX7_walk_68 : decode cX7_walk 68 = .ok (.ifCond .le 24, 3) := by decide +kernel
theorem dX7_walk_71 : decode cX7_walk 71 = .ok (.iload 4, 2) := by decide +kernel
theorem dX7_walk_73 : decode cX7_walk 73 = .ok (.iload 5, 2) := by decide +kernel
theorem dX7_walk_75 : decode cX7_walk 75 = .ok (.iconst 1, 1) := by decide +kernel
theorem dX7_walk_76 : decode cX7_walk 76 = .ok (.isub, 1) := by decide +kernel
theorem dX7_walk_77 : decode cX7_walk 77 = .ok (.ishr, 1) := by decide +kernel
theorem dX7_walk_78 : decode cX7_walk 78 = .ok (.iconst 1, 1) := by decide +kernel
theorem dX7_walk_79 : decode cX7_walk 79 = .ok (.iand, 1) := by decide +kernel
theorem dX7_walk_80 : decode cX7_walk 80 = .ok (.ifCond .ne 12, 3) := by decide +kernel
theorem dX7_walk_83 : decode cX7_walk 83 = .ok (.iinc 5 (-1), 3) := by decide +kernel
theorem dX7_walk_86 : decode cX7_walk 86 = .ok (.iinc 6 (-1), 3) := by decide +kernel
theorem dX7_walk_89 : decode cX7_walk 89 = .ok (.goto (-29), 3) := by decide +kernel
theorem dX7_walk_92 : decode cX7_walk 92 = .ok (.iload 5, 2) := by decide +kernel
theorem dX7_walk_94 : decode cX7_walk 94 = .ok (.ireturn, 1) := by decide +kernel
set_option maxHeartbeats 4000000 in
set_option maxRecDepth 100000 in
theorem c_X7_walk (l : Launch) (E : Nat → ClassId) (D : va_G) (G : th_G) (h0 : Nat) (hG0 : G h0 = some (9, 0)) (x1 x2 x3 : Int32) : Met l yX7_walk (tb (.code yX7_walk cX7_walk 7 (some .int))) (rm 1) (va_Pc [.ref h0, .int x1, .int x2, .int x3] (th_P E D G)) (QI E D G (fun r => True)) 0 0 (th_A G) := by
  refine Met.ofW (cc := cX7_walk) (maxL := 7) (ret := (some .int)) (by decide) rfl ?_
  intro p e s m args below meth c s₁ B hml hv
  obtain ⟨hav, hI, hN, hK⟩ := hv
  have hx := B.exec
  have hb := B.bytes
  have hr := B.returns
  have hts := atoms_spec (ws := tb (.code yX7_walk cX7_walk 7 (some .int))) B.pre
  have hown : s.vm.findClass RX7 = some m.cls := findClass_of_methodNamed B.named
  have hlocks := B.notSynchronized
  have hS : va_S (th_A G) s.heap s.heap [] := va_S.rf
  have hl := lv_entry ([.ref h0, .int x1, .int x2, .int x3]) (n := 7) (Nat.le_of_ble_eq_true rfl)
  rw [show entryFrame m args 7 = entryFrame m ([.ref h0, .int x1, .int x2, .int x3] : List Value).toArray 7 from by rw [hav], lg_entry_eq]
  generalize (lg_sl ([.ref h0, .int x1, .int x2, .int x3]) ++ List.replicate (7 - (lg_sl ([.ref h0, .int x1, .int x2, .int x3])).length) Slot.unset).toArray = ls at hl ⊢
  have hl : lv_has ls 7 [(0, .ref h0), (1, .int x1), (2, .int x2), (3, .int x3)] := hl
  generalize hR : (headSpec (tb (.code yX7_walk cX7_walk 7 (some .int))) (rm 1)).room = R
  have hR := hR.symm
  generalize hQ : MQ below (QI E D G (fun r => True)) args s 0 0 (th_A G) = QF
  have hQ := hQ.symm
  have J_60 : ∀ (nn : Nat) (H : Heap) (locs : List Loc) (ls : Array Slot) (v1835 : Int32) (v1836 : Int32) (v1837 : Int32), (Int.toNat (v1836.toInt - (0)) = nn) → lv_has ls 7 [(6, .int v1835), (5, .int v1836), (4, .int v1837), (0, .ref h0), (1, .int x1), (2, .int x2), (3, .int x3)] → (v1835.toInt ≤ 0) → th_I (okC E) D G [] H → va_S (th_A G) s.heap H locs → W p l e R s m args below meth c H locs 0 0 QF (F0 m 60 ls []) := by
    intro nn
    induction nn using Nat.strongRecOn with
    | ind nn ih_60 =>
      intro H locs ls v1835 v1836 v1837 hm hl k1838 hI hS
      refine lv_iload hx hb dX7_walk_60 (lv_at hl 0 rfl) ?_
      refine lv_iload_n hx hb dX7_walk_62 rfl (lv_at hl 6 rfl) ?_
      have k1839 := iv_lo v1835
      have k1840 := iv_hi v1835
      have k1841 := iv_lo x3
      have k1842 := iv_hi x3
      refine lv_icmp_le (tgt := 92) hx hb dX7_walk_63 (by decide) (fun c1843 => ?_) (fun c1843 => ?_)
      · skip
        have k1844 := iv_le (X := v1835.toInt) (Y := x3.toInt) rfl rfl c1843
        refine lv_iload hx hb dX7_walk_92 (lv_at hl 1 rfl) ?_
        have hpost : True := trivial
        rw [hQ]
        exact W.iret (v := v1836) hx hb hr (fun t ht hW => ⟨⟨v1836, (), rfl, hpost, by rw [ht]; exact hI, hN.warm hW, va_K.moved hW.alike hK⟩, hS.F ht⟩) hS.2.2 dX7_walk_94
      · skip
        have k1845 := iv_nle (X := v1835.toInt) (Y := x3.toInt) rfl rfl c1843
        refine lv_iload hx hb dX7_walk_66 (lv_at hl 1 rfl) ?_
        have k1846 := iv_lo v1836
        have k1847 := iv_hi v1836
        refine lv_if_le (tgt := 92) hx hb dX7_walk_68 (by decide) (fun c1848 => ?_) (fun c1848 => ?_)
        · skip
          have k1849 := iv_le (X := v1836.toInt) (Y := (0)) rfl (by decide) c1848
          refine lv_iload hx hb dX7_walk_92 (lv_at hl 1 rfl) ?_
          have hpost : True := trivial
          rw [hQ]
          exact W.iret (v := v1836) hx hb hr (fun t ht hW => ⟨⟨v1836, (), rfl, hpost, by rw [ht]; exact hI, hN.warm hW, va_K.moved hW.alike hK⟩, hS.F ht⟩) hS.2.2 dX7_walk_94
        · skip
          have k1850 := iv_nle (X := v1836.toInt) (Y := (0)) rfl (by decide) c1848
          refine lv_iload hx hb dX7_walk_71 (lv_at hl 2 rfl) ?_
          refine lv_iload hx hb dX7_walk_73 (lv_at hl 1 rfl) ?_
          refine lv_iconst (v := 1) hx hb dX7_walk_75 (by decide) ?_
          refine lv_isub hx hb dX7_walk_76 ?_
          refine lv_topi (fun v1851 e1852 => ?_)
          have tv1851 : v1851.toInt = v1836.toInt - (1) := iv_sub rfl (by decide) e1852 (by omega) (by omega)
          refine lv_ishr hx hb dX7_walk_77 ?_
          refine lv_topi (fun v1853 e1854 => ?_)
          refine lv_iconst (v := 1) hx hb dX7_walk_78 (by decide) ?_
          refine lv_iand hx hb dX7_walk_79 ?_
          refine lv_topi (fun v1855 e1856 => ?_)
          have tv1855 := iv_andr (m := 1) (M := 1) e1856 (by decide) (by decide)
          refine lv_if_ne (tgt := 92) hx hb dX7_walk_80 (by decide) (fun c1857 => ?_) (fun c1857 => ?_)
          · skip
            have k1858 := iv_ne (X := v1855.toInt) (Y := (0)) rfl (by decide) c1857
            refine lv_iload hx hb dX7_walk_92 (lv_at hl 1 rfl) ?_
            have hpost : True := trivial
            rw [hQ]
            exact W.iret (v := v1836) hx hb hr (fun t ht hW => ⟨⟨v1836, (), rfl, hpost, by rw [ht]; exact hI, hN.warm hW, va_K.moved hW.alike hK⟩, hS.F ht⟩) hS.2.2 dX7_walk_94
          · skip
            have k1859 := iv_eq (X := v1855.toInt) (Y := (0)) rfl (by decide) c1857
            obtain ⟨v1860, e1861⟩ : ∃ y : Int32, y = v1836 + (-1) := ⟨_, rfl⟩
            have tv1860 : v1860.toInt = v1836.toInt + (-1) := iv_add rfl (by decide) e1861 (by omega) (by omega)
            refine lv_iinc (v := v1860) (lv' := [(5, .int v1860), (6, .int v1835), (4, .int v1837), (0, .ref h0), (1, .int x1), (2, .int x2), (3, .int x3)]) hx hb dX7_walk_83 hl (k := 1) rfl (by rw [e1861]; rfl) (by decide) rfl (fun ls hl => ?_)
            obtain ⟨v1862, e1863⟩ : ∃ y : Int32, y = v1835 + (-1) := ⟨_, rfl⟩
            have tv1862 : v1862.toInt = v1835.toInt + (-1) := iv_add rfl (by decide) e1863 (by omega) (by omega)
            refine lv_iinc (v := v1862) (lv' := [(6, .int v1862), (5, .int v1860), (4, .int v1837), (0, .ref h0), (1, .int x1), (2, .int x2), (3, .int x3)]) hx hb dX7_walk_86 hl (k := 1) rfl (by rw [e1863]; rfl) (by decide) rfl (fun ls hl => ?_)
            refine lv_goto (tgt := 60) hx hb dX7_walk_89 (by decide) ?_
            exact ih_60 _ (by omega) H locs ls v1862 v1860 v1837 rfl (lv_sub hl [0, 1, 2, 3, 4, 5, 6] rfl) (by omega) hI hS
  have J_57 : ∀ (H : Heap) (locs : List Loc) (ls : Array Slot) (v1864 : Int32) (v1865 : Int32) (v1866 : Int32), lv_has ls 7 [(6, .int v1864), (5, .int v1865), (4, .int v1866), (0, .ref h0), (1, .int x1), (2, .int x2), (3, .int x3)] → ((0 : Int) ≤ v1864.toInt) → th_I (okC E) D G [] H → va_S (th_A G) s.heap H locs → W p l e R s m args below meth c H locs 0 0 QF (F0 m 57 ls []) := by
    intro H locs ls v1864 v1865 v1866 hl k1867 hI hS
    refine lv_iconst (v := 0) hx hb dX7_walk_57 (by decide) ?_
    refine lv_istore (lv' := [(6, .int 0), (5, .int v1865), (4, .int v1866), (0, .ref h0), (1, .int x1), (2, .int x2), (3, .int x3)]) hx hb dX7_walk_58 hl (by decide) rfl (fun ls hl => ?_)
    exact J_60 _ H locs ls 0 v1865 v1866 rfl (lv_sub hl [0, 1, 2, 3, 4, 5, 6] rfl) (by decide) hI hS
  have J_25 : ∀ (nn : Nat) (H : Heap) (locs : List Loc) (ls : Array Slot) (v1868 : Int32) (v1869 : Int32) (v1870 : Int32), (Int.toNat (24 - v1869.toInt) = nn) → lv_has ls 7 [(6, .int v1868), (5, .int v1869), (4, .int v1870), (0, .ref h0), (1, .int x1), (2, .int x2), (3, .int x3)] → ((0 : Int) ≤ v1868.toInt) → th_I (okC E) D G [] H → va_S (th_A G) s.heap H locs → W p l e R s m args below meth c H locs 0 0 QF (F0 m 25 ls []) := by
    intro nn
    induction nn using Nat.strongRecOn with
    | ind nn ih_25 =>
      intro H locs ls v1868 v1869 v1870 hm hl k1871 hI hS
      refine lv_iload hx hb dX7_walk_25 (lv_at hl 0 rfl) ?_
      refine lv_iload_n hx hb dX7_walk_27 rfl (lv_at hl 6 rfl) ?_
      have k1872 := iv_lo v1868
      have k1873 := iv_hi v1868
      have k1874 := iv_lo x3
      have k1875 := iv_hi x3
      refine lv_icmp_ge (tgt := 57) hx hb dX7_walk_28 (by decide) (fun c1876 => ?_) (fun c1876 => ?_)
      · skip
        have k1877 := iv_le (X := x3.toInt) (Y := v1868.toInt) rfl rfl c1876
        exact J_57 H locs ls v1868 v1869 v1870 (lv_sub hl [0, 1, 2, 3, 4, 5, 6] rfl) (by omega) hI hS
      · skip
        have k1878 := iv_nle (X := x3.toInt) (Y := v1868.toInt) rfl rfl c1876
        refine lv_iload hx hb dX7_walk_31 (lv_at hl 1 rfl) ?_
        refine lv_bipush (v := 24) hx hb dX7_walk_33 (by decide) ?_
        have k1879 := iv_lo v1869
        have k1880 := iv_hi v1869
        refine lv_icmp_ge (tgt := 57) hx hb dX7_walk_35 (by decide) (fun c1881 => ?_) (fun c1881 => ?_)
        · skip
          have k1882 := iv_le (X := (24)) (Y := v1869.toInt) (by decide) rfl c1881
          exact J_57 H locs ls v1868 v1869 v1870 (lv_sub hl [0, 1, 2, 3, 4, 5, 6] rfl) (by omega) hI hS
        · skip
          have k1883 := iv_nle (X := (24)) (Y := v1869.toInt) (by decide) rfl c1881
          refine lv_iload hx hb dX7_walk_38 (lv_at hl 2 rfl) ?_
          refine lv_iload hx hb dX7_walk_40 (lv_at hl 1 rfl) ?_
          refine lv_ishr hx hb dX7_walk_42 ?_
          refine lv_topi (fun v1884 e1885 => ?_)
          refine lv_iconst (v := 1) hx hb dX7_walk_43 (by decide) ?_
          refine lv_iand hx hb dX7_walk_44 ?_
          refine lv_topi (fun v1886 e1887 => ?_)
          have tv1886 := iv_andr (m := 1) (M := 1) e1887 (by decide) (by decide)
          refine lv_if_ne (tgt := 57) hx hb dX7_walk_45 (by decide) (fun c1888 => ?_) (fun c1888 => ?_)
          · skip
            have k1889 := iv_ne (X := v1886.toInt) (Y := (0)) rfl (by decide) c1888
            exact J_57 H locs ls v1868 v1869 v1870 (lv_sub hl [0, 1, 2, 3, 4, 5, 6] rfl) (by omega) hI hS
          · skip
            have k1890 := iv_eq (X := v1886.toInt) (Y := (0)) rfl (by decide) c1888
            obtain ⟨v1891, e1892⟩ : ∃ y : Int32, y = v1869 + (1) := ⟨_, rfl⟩
            have tv1891 : v1891.toInt = v1869.toInt + (1) := iv_add rfl (by decide) e1892 (by omega) (by omega)
            refine lv_iinc (v := v1891) (lv' := [(5, .int v1891), (6, .int v1868), (4, .int v1870), (0, .ref h0), (1, .int x1), (2, .int x2), (3, .int x3)]) hx hb dX7_walk_48 hl (k := 1) rfl (by rw [e1892]; rfl) (by decide) rfl (fun ls hl => ?_)
            obtain ⟨v1893, e1894⟩ : ∃ y : Int32, y = v1868 + (1) := ⟨_, rfl⟩
            have tv1893 : v1893.toInt = v1868.toInt + (1) := iv_add rfl (by decide) e1894 (by omega) (by omega)
            refine lv_iinc (v := v1893) (lv' := [(6, .int v1893), (5, .int v1891), (4, .int v1870), (0, .ref h0), (1, .int x1), (2, .int x2), (3, .int x3)]) hx hb dX7_walk_51 hl (k := 1) rfl (by rw [e1894]; rfl) (by decide) rfl (fun ls hl => ?_)
            refine lv_goto (tgt := 25) hx hb dX7_walk_54 (by decide) ?_
            exact ih_25 _ (by omega) H locs ls v1893 v1891 v1870 rfl (lv_sub hl [0, 1, 2, 3, 4, 5, 6] rfl) (by omega) hI hS
  have J_17 : ∀ (H : Heap) (locs : List Loc) (ls : Array Slot) (v1895 : Int32), lv_has ls 7 [(0, .ref h0), (1, .int x1), (2, .int x2), (3, .int x3)] → th_I (okC E) D G [] H → va_S (th_A G) s.heap H locs → W p l e R s m args below meth c H locs 0 0 QF (F0 m 17 ls [.int v1895]) := by
    intro H locs ls v1895 hl  hI hS
    refine lv_istore (lv' := [(4, .int v1895), (0, .ref h0), (1, .int x1), (2, .int x2), (3, .int x3)]) hx hb dX7_walk_17 hl (by decide) rfl (fun ls hl => ?_)
    refine lv_iload_n hx hb dX7_walk_19 rfl (lv_at hl 2 rfl) ?_
    refine lv_istore (lv' := [(5, .int x1), (4, .int v1895), (0, .ref h0), (1, .int x1), (2, .int x2), (3, .int x3)]) hx hb dX7_walk_20 hl (by decide) rfl (fun ls hl => ?_)
    refine lv_iconst (v := 0) hx hb dX7_walk_22 (by decide) ?_
    refine lv_istore (lv' := [(6, .int 0), (5, .int x1), (4, .int v1895), (0, .ref h0), (1, .int x1), (2, .int x2), (3, .int x3)]) hx hb dX7_walk_23 hl (by decide) rfl (fun ls hl => ?_)
    exact J_25 _ H locs ls 0 x1 v1895 rfl (lv_sub hl [0, 1, 2, 3, 4, 5, 6] rfl) (by decide) hI hS
  refine lv_iload_n hx hb dX7_walk_0 rfl (lv_at hl 2 rfl) ?_
  refine th_cSN (As := [.int x2]) (rest := []) (n := 1) (d := 0) ⟨hx, hb, hml, hown, hts⟩ (c_X11_isHour l s.heap x2) wn_535 wd_467 wd_1 wd_468 (by decide +kernel) ⟨by rw [hR]; exact Nat.le_of_ble_eq_true rfl, by rw [hR]; exact Nat.le_of_ble_eq_true rfl⟩ hN hS rfl hl.1 rfl (Nat.le_of_ble_eq_true rfl) dX7_walk_1 ⟨Nat.zero_le _, Nat.zero_le _⟩ (fun r1896 locs hp hS => ?_)
  rcases hp with ⟨rfl, hp⟩ | ⟨rfl, hp⟩
  · skip
    try simp only [rg, not_and, Int.not_le] at hp
    have hp1897 := hp
    refine lv_if_eq (tgt := 16) hx hb dX7_walk_4 (by decide) (fun c => absurd c (by decide)) (fun _ => ?_)
    refine lv_aload_n hx hb dX7_walk_7 rfl (lv_at hl 0 rfl) ?_
    obtain ⟨a1898, a1900, a1902, a1904, a1906, a1908, w1910, hO, hq1899, hq1901, hq1903, hq1905, hq1907, hq1909⟩ := op_9 hI hG0 List.not_mem_nil
    have hI := th_I.weak (a := h0) hI
    refine th_get hx hb hts inT7 hown hK hO rfl 4 (by decide) (hts _ (tb_c wd_193)) rfl rfl dX7_walk_8 ?_
    refine lv_iload_n hx hb dX7_walk_11 rfl (lv_at hl 2 rfl) ?_
    obtain ⟨_, hA1911⟩ := op_0 hI hq1907 (th_ne hG0 hq1907 (show (9 : Nat) ≠ 0 by decide))
    refine th_iald hx hb hK hA1911 0 rfl (iv_in (X := x2.toInt) rfl (by omega) (by omega)) dX7_walk_12 (fun v1912 _ => ?_)
    refine lv_goto (tgt := 17) hx hb dX7_walk_13 (by decide) ?_
    have hI := th_I.close hI hG0 hO (ok_9 hq1899 hq1901 hq1903 hq1905 hq1907 hq1909)
    exact J_17 s.heap locs ls v1912 (lv_sub hl [0, 1, 2, 3] rfl)  hI hS
  · skip
    try simp only [rg, not_and, Int.not_le] at hp
    have hp1913 := hp
    refine lv_if_eq (tgt := 16) hx hb dX7_walk_4 (by decide) (fun _ => ?_) (fun c => absurd c (by decide))
    refine lv_iconst (v := 0) hx hb dX7_walk_16 (by decide) ?_
    exact J_17 s.heap locs ls 0 (lv_sub hl [0, 1, 2, 3] rfl)  hI hS
