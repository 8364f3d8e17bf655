theorem wn_534 : (Cond.methodLinkNest RX7 (43 : Nat) yX11_isCell "NineRiver") ∈ lw_tbl := List.mem_append_right _ (List.mem_of_getElem? (i := 534) (by decide +kernel))
theorem wn_535 : (Cond.methodLinkNest RX7 (47 : Nat) yX11_isHour "NineRiver") ∈ lw_tbl := List.mem_append_right _ (List.mem_of_getElem? (i := 535) (by decide +kernel))
theorem wn_62 : (Cond.fieldLinkNest RX7 (126 : Nat) "NineRiver$State" "gates" "LNineRiver$Rows;" "NineRiver") ∈ lw_tbl := List.mem_append_right _ (List.mem_of_getElem? (i := 62) (by decide +kernel))
theorem wn_65 : (Cond.fieldLinkNest RX7 (139 : Nat) "NineRiver$State" "mills" "LNineRiver$Rows;" "NineRiver") ∈ lw_tbl := List.mem_append_right _ (List.mem_of_getElem? (i := 65) (by decide +kernel))
theorem wd_15 : (Cond.initialized RJ7) ∈ TB := tw 15 (by decide +kernel) (by decide +kernel)
theorem wd_189 : (Cond.fieldLink RX7 (35 : Nat) "NineRiver$Stream" "state" "LNineRiver$State;") ∈ TB := tw 189 (by decide +kernel) (by decide +kernel)
theorem wd_191 : (Cond.fieldLink RX7 (18 : Nat) "NineRiver$Stream" "ways" "[I") ∈ TB := tw 191 (by decide +kernel) (by decide +kernel)
theorem wd_192 : (Cond.fieldLink RX7 (22 : Nat) "NineRiver$Stream" "prices" "[I") ∈ TB := tw 192 (by decide +kernel) (by decide +kernel)
theorem wd_193 : (Cond.fieldLink RX7 (25 : Nat) "NineRiver$Stream" "shutGates" "[I") ∈ TB := tw 193 (by decide +kernel) (by decide +kernel)
theorem wd_194 : (Cond.fieldLink RX7 (28 : Nat) "NineRiver$Stream" "millsAt" "[I") ∈ TB := tw 194 (by decide +kernel) (by decide +kernel)
theorem wd_507 : (Jvm.Cond.instanceMethod yX4_size) ∈ TB := tw 507 (by decide +kernel) (by decide +kernel)
theorem wd_508 : (Cond.selects RX4 yX4_size yX4_size) ∈ TB := tw 508 (by decide +kernel) (by decide +kernel)
theorem wd_509 : (Cond.code yX4_size cX4_size 1 (Option.some Jvm.ClassFile.FieldType.int)) ∈ TB := tw 509 (by decide +kernel) (by decide +kernel)
theorem wd_519 : (Jvm.Cond.instanceMethod yX4_at) ∈ TB := tw 519 (by decide +kernel) (by decide +kernel)
theorem wd_520 : (Cond.selects RX4 yX4_at yX4_at) ∈ TB := tw 520 (by decide +kernel) (by decide +kernel)
theorem wd_521 : (Cond.code yX4_at cX4_at 3 (Option.some Jvm.ClassFile.FieldType.int)) ∈ TB := tw 521 (by decide +kernel) (by decide +kernel)
theorem wd_540 : (Cond.methodLink RX7 (120 : Nat) yJ7_fill_53178) ∈ TB := tw 540 (by decide +kernel) (by decide +kernel)
theorem wd_541 : (Jvm.Cond.static yJ7_fill_53178) ∈ TB := tw 541 (by decide +kernel) (by decide +kernel)
theorem wd_542 : (Cond.code yJ7_fill_53178 cJ7_fill_53178 4 (Option.none : Option Jvm.ClassFile.FieldType)) ∈ TB := tw 542 (by decide +kernel) (by decide +kernel)
theorem wd_543 : (Cond.methodLink RX7 (130 : Nat) yX4_size) ∈ TB := tw 543 (by decide +kernel) (by decide +kernel)
theorem wd_544 : (Cond.methodLink RX7 (136 : Nat) yX4_at) ∈ TB := tw 544 (by decide +kernel) (by decide +kernel)
theorem dJ7_fill_53178_0 : decode cJ7_fill_53178 0 = .ok (.iconst 0, 1) := by decide +kernel
theorem dJ7_fill_53178_1 : decode cJ7_fill_53178 1 = .ok (.istore_n 2, 1) := by decide +kernel
theorem dJ7_fill_53178_2 : decode cJ7_fill_53178 2 = .ok (.aload_n 0, 1) := by decide +kernel
theorem dJ7_fill_53178_3 : decode cJ7_fill_53178 3 = .ok (.arraylength, 1) := by decide +kernel
theorem dJ7_fill_53178_4 : decode cJ7_fill_53178 4 = .ok (.istore_n 3, 1) := by decide +kernel
theorem dJ7_fill_53178_5 : decode cJ7_fill_53178 5 = .ok (.iload_n 2, 1) := by decide +kernel
theorem dJ7_fill_53178_6 : decode cJ7_fill_53178 6 = .ok (.iload_n 3, 1) := by decide +kernel
theorem dJ7_fill_53178_7 : decode cJ7_fill_53178 7 = .ok (.if_icmp .ge 13, 3) := by decide +kernel
theorem dJ7_fill_53178_10 : decode cJ7_fill_53178 10 = .ok (.aload_n 0, 1) := by decide +kernel
theorem dJ7_fill_53178_11 : decode cJ7_fill_53178 11 = .ok (.iload_n 2, 1) := by decide +kernel
theorem dJ7_fill_53178_12 : decode cJ7_fill_53178 12 = .ok (.iload_n 1, 1) := by decide +kernel
theorem dJ7_fill_53178_13 : decode cJ7_fill_53178 13 = .ok (.iastore, 1) := by decide +kernel
theorem dJ7_fill_53178_14 : decode cJ7_fill_53178 14 = .ok (.iinc 2 1, 3) := by decide +kernel
theorem dJ7_fill_53178_17 : decode cJ7_fill_53178 17 = .ok (.goto (-12), 3) := by decide +kernel
theorem dJ7_fill_53178_20 : decode cJ7_fill_53178 20 = .ok (.return_, 1) := by decide +kernel
set_option maxHeartbeats 4000000 in
set_option maxRecDepth 100000 in
theorem c_J7_fill_53178 (l : Launch) (E : Nat → ClassId) (D : va_G) (G : th_G) (h0 n : Nat) (hG0 : G h0 = some (0, n)) (hn : n < 2147483648) (x1 : Int32) : Met l yJ7_fill_53178 (tb (.code yJ7_fill_53178 cJ7_fill_53178 4 none)) (rm 0) (va_Pc [.ref h0, .int x1] (th_P E D G)) (QV E D G) 0 0 (th_A G) := by
  refine Met.ofW (cc := cJ7_fill_53178) (maxL := 4) (ret := none) (by decide) rfl ?_
  intro p e s m args below meth c s₁ B hml hv
  obtain ⟨hav, hI, hN, hK⟩ := hv
  have hx := B.exec
  have hb := B.bytes
  have hr := B.returns
  have hts := atoms_spec (ws := tb (.code yJ7_fill_53178 cJ7_fill_53178 4 none)) B.pre
  have hown : s.vm.findClass RJ7 = some m.cls := findClass_of_methodNamed B.named
  have hlocks := B.notSynchronized
  have hS : va_S (th_A G) s.heap s.heap [] := va_S.rf
  have hl := lv_entry ([.ref h0, .int x1]) (n := 4) (Nat.le_of_ble_eq_true rfl)
  rw [show entryFrame m args 4 = entryFrame m ([.ref h0, .int x1] : List Value).toArray 4 from by rw [hav], lg_entry_eq]
  generalize (lg_sl ([.ref h0, .int x1]) ++ List.replicate (4 - (lg_sl ([.ref h0, .int x1])).length) Slot.unset).toArray = ls at hl ⊢
  have hl : lv_has ls 4 [(0, .ref h0), (1, .int x1)] := hl
  generalize hR : (headSpec (tb (.code yJ7_fill_53178 cJ7_fill_53178 4 none)) (rm 0)).room = R
  have hR := hR.symm
  generalize hQ : MQ below (QV E D G) args s 0 0 (th_A G) = QF
  have hQ := hQ.symm
  have J_5 : ∀ (nn : Nat) (H : Heap) (locs : List Loc) (ls : Array Slot) (v267 : Int32) (v268 : Int32), (Int.toNat (v267.toInt - v268.toInt) = nn) → lv_has ls 4 [(3, .int v267), (2, .int v268), (0, .ref h0), (1, .int x1)] → ((0 : Int) ≤ v267.toInt) → ((0 : Int) ≤ v268.toInt) → (v267.toInt = ((n : Nat) : Int)) → th_I (okC E) D G [] H → va_S (th_A G) s.heap H locs → W p l e R s m args below meth c H locs 0 0 QF (F0 m 5 ls []) := by
    intro nn
    induction nn using Nat.strongRecOn with
    | ind nn ih_5 =>
      intro H locs ls v267 v268 hm hl k269 k270 k271 hI hS
      refine lv_iload_n hx hb dJ7_fill_53178_5 rfl (lv_at hl 1 rfl) ?_
      refine lv_iload_n hx hb dJ7_fill_53178_6 rfl (lv_at hl 0 rfl) ?_
      refine lv_icmp_ge (tgt := 20) hx hb dJ7_fill_53178_7 (by decide) (fun c272 => ?_) (fun c272 => ?_)
      · skip
        have k273 := iv_le (X := v267.toInt) (Y := v268.toInt) rfl rfl c272
        rw [hQ]
        exact W.vret hx hb hr (fun t ht hW => ⟨⟨(), rfl, trivial, by rw [ht]; exact hI, hN.warm hW, va_K.moved hW.alike hK⟩, hS.F ht⟩) hS.2.2 dJ7_fill_53178_20
      · skip
        have k274 := iv_nle (X := v267.toInt) (Y := v268.toInt) rfl rfl c272
        refine lv_aload_n hx hb dJ7_fill_53178_10 rfl (lv_at hl 2 rfl) ?_
        refine lv_iload_n hx hb dJ7_fill_53178_11 rfl (lv_at hl 1 rfl) ?_
        refine lv_iload_n hx hb dJ7_fill_53178_12 rfl (lv_at hl 3 rfl) ?_
        obtain ⟨_, hA275⟩ := op_0 hI hG0 List.not_mem_nil
        refine th_iast hx hb hK hA275 0 rfl hS ⟨_, hG0⟩ (iv_in (X := v268.toInt) rfl (by omega) (by omega)) dJ7_fill_53178_13 (fun H locs hA275 oq hS => ?_)
        have hI := th_I.put hI hG0 hA275 ok_0 oq
        obtain ⟨v276, e277⟩ : ∃ y : Int32, y = v268 + (1) := ⟨_, rfl⟩
        have tv276 : v276.toInt = v268.toInt + (1) := iv_add rfl (by decide) e277 (by omega) (by omega)
        refine lv_iinc (v := v276) (lv' := [(2, .int v276), (3, .int v267), (0, .ref h0), (1, .int x1)]) hx hb dJ7_fill_53178_14 hl (k := 1) rfl (by rw [e277]; rfl) (by decide) rfl (fun ls hl => ?_)
        refine lv_goto (tgt := 5) hx hb dJ7_fill_53178_17 (by decide) ?_
        exact ih_5 _ (by omega) H locs ls v267 v276 rfl (lv_sub hl [1, 0, 2, 3] rfl) (by omega) (by omega) (by omega) hI hS
  refine lv_iconst (v := 0) hx hb dJ7_fill_53178_0 (by decide) ?_
  refine lv_istore_n (lv' := [(2, .int 0), (0, .ref h0), (1, .int x1)]) hx hb dJ7_fill_53178_1 rfl hl (by decide) rfl (fun ls hl => ?_)
  refine lv_aload_n hx hb dJ7_fill_53178_2 rfl (lv_at hl 1 rfl) ?_
  obtain ⟨_, hA278⟩ := op_0 hI hG0 List.not_mem_nil
  refine va_alen hx hb hK (th_one hA278) 0 0 rfl (v := nI (n)) rfl rfl dJ7_fill_53178_3 ?_
  refine lv_topi (fun v279 e280 => ?_)
  have tv279 : v279.toInt = ((n : Nat) : Int) := by rw [e280]; exact nI_toInt (by omega)
  refine lv_istore_n (lv' := [(3, .int v279), (2, .int 0), (0, .ref h0), (1, .int x1)]) hx hb dJ7_fill_53178_4 rfl hl (by decide) rfl (fun ls hl => ?_)
  have zl : (0 : Int32).toInt = 0 := by decide
  exact J_5 _ s.heap [] ls v279 0 rfl (lv_sub hl [0, 1, 2, 3] rfl) (by omega) (by decide) (by omega) hI hS
theorem dX7_refresh_0 : decode cX7_refresh 0 = .ok (.aload_n 0, 1) := by decide +kernel
theorem dX7_refresh_1 : decode cX7_refresh 1 = .ok (.getfield 31, 3) := by decide +kernel
theorem dX7_refresh_4 : decode cX7_refresh 4 = .ok (.ifCond .ne 4, 3) := by decide +kernel
theorem dX7_refresh_7 : decode cX7_refresh 7 = .ok (.return_, 1) := by decide +kernel
theorem dX7_refresh_8 : decode cX7_refresh 8 = .ok (.aload_n 0, 1) := by decide +kernel
theorem dX7_refresh_9 : decode cX7_refresh 9 = .ok (.iconst 0, 1) := by decide +kernel
theorem dX7_refresh_10 : decode cX7_refresh 10 = .ok (.putfield 31, 3) := by decide +kernel
theorem dX7_refresh_13 : decode cX7_refresh 13 = .ok (.aload_n 0, 1) := by decide +kernel
theorem dX7_refresh_14 : decode cX7_refresh 14 = .ok (.getfield 18, 3) := by decide +kernel
theorem dX7_refresh_17 : decode cX7_refresh 17 = .ok (.iconst 0, 1) := by decide +kernel
theorem dX7_refresh_18 : decode cX7_refresh 18 = .ok (.invokestatic 120, 3) := by decide +kernel
theorem dX7_refresh_21 : decode cX7_refresh 21 = .ok (.aload_n 0, 1) := by decide +kernel
theorem dX7_refresh_22 : decode cX7_refresh 22 = .ok (.getfield 22, 3) := by decide +kernel
theorem dX7_refresh_25 : decode cX7_refresh 25 = .ok (.iconst 0, 1) := by decide +kernel
theorem dX7_refresh_26 : decode cX7_refresh 26 = .ok (.invokestatic 120, 3) := by decide +kernel
theorem dX7_refresh_29 : decode cX7_refresh 29 = .ok (.aload_n 0, 1) := by decide +kernel
theorem dX7_refresh_30 : decode cX7_refresh 30 = .ok (.getfield 25, 3) := by decide +kernel
theorem dX7_refresh_33 : decode cX7_refresh 33 = .ok (.iconst 0, 1) := by decide +kernel
theorem dX7_refresh_34 : decode cX7_refresh 34 = .ok (.invokestatic 120, 3) := by decide +kernel
theorem dX7_refresh_37 : decode cX7_refresh 37 = .ok (.aload_n 0, 1) := by decide +kernel
theorem dX7_refresh_38 : decode cX7_refresh 38 = .ok (.getfield 28, 3) := by decide +kernel
theorem dX7_refresh_41 : decode cX7_refresh 41 = .ok (.iconst 0, 1) := by decide +kernel
theorem dX7_refresh_42 : decode cX7_refresh 42 = .ok (.invokestatic 120, 3) := by decide +kernel
theorem dX7_refresh_45 : decode cX7_refresh 45 = .ok (.iconst 0, 1) := by decide +kernel
theorem dX7_refresh_46 : decode cX7_refresh 46 = .ok (.istore_n 1, 1) := by decide +kernel
theorem dX7_refresh_47 : decode cX7_refresh 47 = .ok (.iload_n 1, 1) := by decide +kernel
theorem dX7_refresh_48 : decode cX7_refresh 48 = .ok (.aload_n 0, 1) := by decide +kernel
theorem dX7_refresh_49 : decode cX7_refresh 49 = .ok (.getfield 35, 3) := by decide +kernel
theorem dX7_refresh_52 : decode cX7_refresh 52 = .ok (.getfield 126, 3) := by decide +kernel
theorem dX7_refresh_55 : decode cX7_refresh 55 = .ok (.invokevirtual 130, 3) := by decide +kernel
theorem dX7_refresh_58 : decode cX7_refresh 58 = .ok (.if_icmp .ge 79, 3) := by decide +kernel
theorem dX7_refresh_61 : decode cX7_refresh 61 = .ok (.aload_n 0, 1) := by decide +kernel
theorem dX7_refresh_62 : decode cX7_refresh 62 = .ok (.getfield 35, 3) := by decide +kernel
theorem dX7_refresh_65 : decode cX7_refresh 65 = .ok (.getfield 126, 3) := by decide +kernel
theorem dX7_refresh_68 : decode cX7_refresh 68 = .ok (.iload_n 1, 1) := by decide +kernel
theorem dX7_refresh_69 : decode cX7_refresh 69 = .ok (.iconst 2, 1) := by decide +kernel
theorem dX7_refresh_70 : decode cX7_refresh 70 = .ok (.invokevirtual 136, 3) := by decide +kernel
theorem dX7_refresh_73 : decode cX7_refresh 73 = .ok (.istore_n 2, 1) := by decide +kernel
theorem dX7_refresh_74 : decode cX7_refresh 74 = .ok (.aload_n 0, 1) := by decide +kernel
theorem dX7_refresh_75 : decode cX7_refresh 75 = .ok (.getfield 35, 3) := by decide +kernel
theorem dX7_refresh_78 : decode cX7_refresh 78 = .ok (.getfield 126, 3) := by decide +kernel
theorem dX7_refresh_81 : decode cX7_refresh 81 = .ok (.iload_n 1, 1) := by decide +kernel
theorem dX7_refresh_82 : decode cX7_refresh 82 = .ok (.iconst 1, 1) := by decide +kernel
theorem dX7_refresh_83 : decode cX7_refresh 83 = .ok (.invokevirtual 136, 3) := by decide +kernel
theorem dX7_refresh_86 : decode cX7_refresh 86 = .ok (.istore_n 3, 1) := by decide +kernel
theorem dX7_refresh_87 : decode cX7_refresh 87 = .ok (.iload_n 3, 1) := by decide +kernel
theorem dX7_refresh_88 : decode cX7_refresh 88 = .ok (.ifCond .lt 43, 3) := by decide +kernel
theorem dX7_refresh_91 : decode cX7_refresh 91 = .ok (.iload_n 3, 1) := by decide +kernel
theorem dX7_refresh_92 : decode cX7_refresh 92 = .ok (.iload_n 2, 1) := by decide +kernel
theorem dX7_refresh_93 : decode cX7_refresh 93 = .ok (.if_icmp .gt 38, 3) := by decide +kernel
theorem dX7_refresh_96 : decode cX7_refresh 96 = .ok (.iload_n 3, 1) := by decide +kernel
theorem dX7_refresh_97 : decode cX7_refresh 97 = .ok (.bipush 96, 2) := by decide +kernel
theorem dX7_refresh_99 : decode cX7_refresh 99 = .ok (.if_icmp .ge 32, 3) := by decide +kernel
theorem dX7_refresh_102 : decode cX7_refresh 102 = .ok (.aload_n 0, 1) := by decide +kernel
theorem dX7_refresh_103 : decode cX7_refresh 103 = .ok (.getfield 25, 3) := by decide +kernel
theorem dX7_refresh_106 : decode cX7_refresh 106 = .ok (.iload_n 3, 1) := by decide +kernel
theorem dX7_refresh_107 : decode cX7_refresh 107 = .ok (.dup2, 1) := by decide +kernel
theorem dX7_refresh_108 : decode cX7_refresh 108 = .ok (.iaload, 1) := by decide +kernel
theorem dX7_refresh_109 : decode cX7_refresh 109 = .ok (.iconst 1, 1) := by decide +kernel
theorem dX7_refresh_110 : decode cX7_refresh 110 = .ok (.aload_n 0, 1) := by decide +kernel
theorem dX7_refresh_111 : decode cX7_refresh 111 = .ok (.getfield 35, 3) := by decide +kernel
theorem dX7_refresh_114 : decode cX7_refresh 114 = .ok (.getfield 126, 3) := by decide +kernel
theorem dX7_refresh_117 : decode cX7_refresh 117 = .ok (.iload_n 1, 1) := by decide +kernel
theorem dX7_refresh_118 : decode cX7_refresh 118 = .ok (.iconst 0, 1) := by decide +kernel
theorem dX7_refresh_119 : decode cX7_refresh 119 = .ok (.invokevirtual 136, 3) := by decide +kernel
theorem dX7_refresh_122 : decode cX7_refresh 122 = .ok (.ishl, 1) := by decide +kernel
theorem dX7_refresh_123 : decode cX7_refresh 123 = .ok (.ior, 1) := by decide +kernel
theorem dX7_refresh_124 : decode cX7_refresh 124 = .ok (.iastore, 1) := by decide +kernel
theorem dX7_refresh_125 : decode cX7_refresh 125 = .ok (.iinc 3 1, 3) := by decide +kernel
theorem dX7_refresh_128 : decode cX7_refresh 128 = .ok (.goto (-41), 3) := by decide +kernel
theorem dX7_refresh_131 : decode cX7_refresh 131 = .ok (.iinc 1 1, 3) := by decide +kernel
theorem dX7_refresh_134 : decode cX7_refresh 134 = .ok (.goto (-87), 3) := by decide +kernel
theorem dX7_refresh_137 : decode cX7_refresh 137 = .ok (.iconst 0, 1) := by decide +kernel
theorem dX7_refresh_138 : decode cX7_refresh 138 = .ok (.istore_n 1, 1) := by decide +kernel
theorem dX7_refresh_139 : decode cX7_refresh 139 = .ok (.iload_n 1, 1) := by decide +kernel
theorem dX7_refresh_140 : decode cX7_refresh 140 = .ok (.aload_n 0, 1) := by decide +kernel
theorem dX7_refresh_141 : decode cX7_refresh 141 = .ok (.getfield 35, 3) := by decide +kernel
theorem dX7_refresh_144 : decode cX7_refresh 144 = .ok (.getfield 139, 3) := by decide +kernel
theorem dX7_refresh_147 : decode cX7_refresh 147 = .ok (.invokevirtual 130, 3) := by decide +kernel
theorem dX7_refresh_150 : decode cX7_refresh 150 = .ok (.if_icmp .ge 39, 3) := by decide +kernel
theorem dX7_refresh_153 : decode cX7_refresh 153 = .ok (.aload_n 0, 1) := by decide +kernel
theorem dX7_refresh_154 : decode cX7_refresh 154 = .ok (.getfield 35, 3) := by decide +kernel
theorem dX7_refresh_157 : decode cX7_refresh 157 = .ok (.getfield 139, 3) := by decide +kernel
theorem dX7_refresh_160 : decode cX7_refresh 160 = .ok (.iload_n 1, 1) := by decide +kernel
theorem dX7_refresh_161 : decode cX7_refresh 161 = .ok (.iconst 0, 1) := by decide +kernel
theorem dX7_refresh_162 : decode cX7_refresh 162 = .ok (.invokevirtual 136, 3) := by decide +kernel
theorem dX7_refresh_165 : decode cX7_refresh 165 = .ok (.istore_n 2, 1) := by decide +kernel
theorem dX7_refresh_166 : decode cX7_refresh 166 = .ok (.iload_n 2, 1) := by decide +kernel
theorem dX7_refresh_167 : decode cX7_refresh 167 = .ok (.invokestatic 43, 3) := by decide +kernel
theorem dX7_refresh_170 : decode cX7_refresh 170 = .ok (.ifCond .eq 13, 3) := by decide +kernel
theorem dX7_refresh_173 : decode cX7_refresh 173 = .ok (.aload_n 0, 1) := by decide +kernel
theorem dX7_refresh_174 : decode cX7_refresh 174 = .ok (.getfield 28, 3) := by decide +kernel
theorem dX7_refresh_177 : decode cX7_refresh 177 = .ok (.iload_n 2, 1) := by decide +kernel
theorem dX7_refresh_178 : decode cX7_refresh 178 = .ok (.dup2, 1) := by decide +kernel
theorem dX7_refresh_179 : decode cX7_refresh 179 = .ok (.iaload, 1) := by decide +kernel
theorem dX7_refresh_180 : decode cX7_refresh 180 = .ok (.iconst 1, 1) := by decide +kernel
theorem dX7_refresh_181 : decode cX7_refresh 181 = .ok (.iadd, 1) := by decide +kernel
theorem dX7_refresh_182 : decode cX7_refresh 182 = .ok (.iastore, 1) := by decide +kernel
theorem dX7_refresh_183 : decode cX7_refresh 183 = .ok (.iinc 1 1, 3) := by decide +kernel
theorem dX7_refresh_186 : decode cX7_refresh 186 = .ok (.goto (-47), 3) := by decide +kernel
theorem dX7_refresh_189 : decode cX7_refresh 189 = .ok (.return_, 1) := by decide +kernel
set_option maxHeartbeats 4000000 in
set_option maxRecDepth 100000 in
theorem c_X7_refresh (l : Launch) (E : Nat → ClassId) (D : va_G) (G : th_G) (h0 : Nat) (hG0 : G h0 = some (9, 0)) : Met l yX7_refresh (tb (.code yX7_refresh cX7_refresh 4 none)) (rm 2) (va_Pc [.ref h0] (th_P E D G)) (QV E D G) 0 0 (th_A G) := by
  refine Met.ofW (cc := cX7_refresh) (maxL := 4) (ret := none) (by decide) rfl ?_
  intro p e s m args below meth c s₁ B hml hv
  obtain ⟨hav, hI, hN, hK⟩ := hv
  have hx := B.exec
  have hb := B.bytes
  have hr := B.returns
  have hts := atoms_spec (ws := tb (.code yX7_refresh cX7_refresh 4 none)) B.pre
  have hown : s.vm.findClass RX7 = some m.cls := findClass_of_methodNamed B.named
  have hlocks := B.notSynchronized
  have hS : va_S (th_A G) s.heap s.heap [] := va_S.rf
  have hl := lv_entry ([.ref h0]) (n := 4) (Nat.le_of_ble_eq_true rfl)
  rw [show entryFrame m args 4 = entryFrame m ([.ref h0] : List Value).toArray 4 from by rw [hav], lg_entry_eq]
  generalize (lg_sl ([.ref h0]) ++ List.replicate (4 - (lg_sl ([.ref h0])).length) Slot.unset).toArray = ls at hl ⊢
  have hl : lv_has ls 4 [(0, .ref h0)] := hl
  generalize hR : (headSpec (tb (.code yX7_refresh cX7_refresh 4 none)) (rm 2)).room = R
  have hR := hR.symm
  generalize hQ : MQ below (QV E D G) args s 0 0 (th_A G) = QF
  have hQ := hQ.symm
  have J_139 : ∀ (nn : Nat) (H : Heap) (locs : List Loc) (ls : Array Slot) (v8047 : Int32), (Int.toNat (6 - v8047.toInt) = nn) → lv_has ls 4 [(1, .int v8047), (0, .ref h0)] → ((0 : Int) ≤ v8047.toInt ∧ v8047.toInt ≤ 6) → th_I (okC E) D G [] H → va_S (th_A G) s.heap H locs → W p l e R s m args below meth c H locs 0 0 QF (F0 m 139 ls []) := by
    intro nn
    induction nn using Nat.strongRecOn with
    | ind nn ih_139 =>
      intro H locs ls v8047 hm hl k8048 hI hS
      refine lv_iload_n hx hb dX7_refresh_139 rfl (lv_at hl 0 rfl) ?_
      refine lv_aload_n hx hb dX7_refresh_140 rfl (lv_at hl 1 rfl) ?_
      obtain ⟨a8049, a8051, a8053, a8055, a8057, a8059, w8061, hO, hq8050, hq8052, hq8054, hq8056, hq8058, hq8060⟩ := op_9 hI hG0 List.not_mem_nil
      have hI := th_I.weak (a := h0) hI
      refine th_get hx hb hts inT7 hown hK hO rfl 0 (by decide) (hts _ (tb_c wd_189)) rfl rfl dX7_refresh_141 ?_
      have hI := th_I.close hI hG0 hO (ok_9 hq8050 hq8052 hq8054 hq8056 hq8058 hq8060)
      obtain ⟨a8062, a8064, a8066, a8068, a8070, a8072, a8074, a8076, a8078, a8080, w8082, w8085, w8086, w8087, hO, hq8063, hq8065, hq8067, hq8069, hq8071, hq8073, hq8075, hq8077, hq8079, hq8081, ⟨k8083, k8084⟩⟩ := op_6 hI hq8050 List.not_mem_nil
      have hI := th_I.weak (a := a8049) hI
      refine th_getN hx hb hts inT6 hown hK hN hO rfl 3 (by decide) wn_65 rfl rfl dX7_refresh_144 ?_
      have hI := th_I.close hI hq8050 hO (ok_6 hq8063 hq8065 hq8067 hq8069 hq8071 hq8073 hq8075 hq8077 hq8079 hq8081 ⟨by omega, by omega⟩)
      obtain ⟨a8089, w8091, hO, hq8090, ⟨k8092, k8093⟩, k8094⟩ := op_4 hI hq8069 List.not_mem_nil
      have hI := th_I.weak (a := a8068) hI
      have k8095 : (nI 6).toInt = ((6 : Nat) : Int) := nI_toInt (by omega)
      refine th_cVs (As := []) (rest := [.int v8047]) (n := 0) (d := 0) ⟨hx, hb, hml, hown, hts⟩ (c_X4_size l E D H a8068 6 a8089 w8091 hO (by omega) (by omega) (by omega)) wd_543 wd_507 wd_508 wd_3 wd_509 (by decide +kernel) ⟨by rw [hR]; exact Nat.le_of_ble_eq_true rfl, by rw [hR]; exact Nat.le_of_ble_eq_true rfl⟩ hN hK hS ⟨_, hO⟩ rfl rfl hl.1 rfl (Nat.le_of_ble_eq_true rfl) dX7_refresh_147 ⟨Nat.zero_le _, Nat.zero_le _⟩ (fun r8088 locs hp hS => ?_)
      have hp := hp.symm
      subst hp
      refine lv_icmp_ge (tgt := 189) hx hb dX7_refresh_150 (by decide) (fun c8096 => ?_) (fun c8096 => ?_)
      · skip
        have k8097 := iv_le (X := w8091.toInt) (Y := v8047.toInt) rfl rfl c8096
        have hI := th_I.close hI hq8069 hO (ok_4 hq8090 ⟨by omega, by omega⟩ (by omega))
        rw [hQ]
        exact W.vret hx hb hr (fun t ht hW => ⟨⟨(), rfl, trivial, by rw [ht]; exact hI, hN.warm hW, va_K.moved hW.alike hK⟩, hS.F ht⟩) hS.2.2 dX7_refresh_189
      · skip
        have k8098 := iv_nle (X := w8091.toInt) (Y := v8047.toInt) rfl rfl c8096
        refine lv_aload_n hx hb dX7_refresh_153 rfl (lv_at hl 1 rfl) ?_
        have hI := th_I.close hI hq8069 hO (ok_4 hq8090 ⟨by omega, by omega⟩ (by omega))
        obtain ⟨a8099, a8101, a8103, a8105, a8107, a8109, w8111, hO, hq8100, hq8102, hq8104, hq8106, hq8108, hq8110⟩ := op_9 hI hG0 List.not_mem_nil
        have hI := th_I.weak (a := h0) hI
        refine th_get hx hb hts inT7 hown hK hO rfl 0 (by decide) (hts _ (tb_c wd_189)) rfl rfl dX7_refresh_154 ?_
        have hI := th_I.close hI hG0 hO (ok_9 hq8100 hq8102 hq8104 hq8106 hq8108 hq8110)
        obtain ⟨a8112, a8114, a8116, a8118, a8120, a8122, a8124, a8126, a8128, a8130, w8132, w8135, w8136, w8137, hO, hq8113, hq8115, hq8117, hq8119, hq8121, hq8123, hq8125, hq8127, hq8129, hq8131, ⟨k8133, k8134⟩⟩ := op_6 hI hq8100 List.not_mem_nil
        have hI := th_I.weak (a := a8099) hI
        refine th_getN hx hb hts inT6 hown hK hN hO rfl 3 (by decide) wn_65 rfl rfl dX7_refresh_157 ?_
        refine lv_iload_n hx hb dX7_refresh_160 rfl (lv_at hl 0 rfl) ?_
        refine lv_iconst (v := 0) hx hb dX7_refresh_161 (by decide) ?_
        have hI := th_I.close hI hq8100 hO (ok_6 hq8113 hq8115 hq8117 hq8119 hq8121 hq8123 hq8125 hq8127 hq8129 hq8131 ⟨by omega, by omega⟩)
        refine th_cVi (As := [.int v8047, .int 0]) (rest := []) (n := 2) (d := 0) ⟨hx, hb, hml, hown, hts⟩ (c_X4_at l E D G a8118 (6) hq8119 v8047 0) wd_544 wd_519 wd_520 wd_3 wd_521 (by decide +kernel) ⟨by rw [hR]; exact Nat.le_of_ble_eq_true rfl, by rw [hR]; exact Nat.le_of_ble_eq_true rfl⟩ hI hN hK hS (rc_4 hI hq8119 List.not_mem_nil) rfl rfl hl.1 rfl (Nat.le_of_ble_eq_true rfl) dX7_refresh_162 ⟨Nat.zero_le _, Nat.zero_le _⟩ (fun r8138 H locs hp hI hS => ?_)
        refine lv_istore_n (lv' := [(2, .int r8138), (1, .int v8047), (0, .ref h0)]) hx hb dX7_refresh_165 rfl hl (by decide) rfl (fun ls hl => ?_)
        refine lv_iload_n hx hb dX7_refresh_166 rfl (lv_at hl 0 rfl) ?_
        refine th_cSN (As := [.int r8138]) (rest := []) (n := 1) (d := 0) ⟨hx, hb, hml, hown, hts⟩ (c_X11_isCell l H r8138) wn_534 wd_402 wd_1 wd_403 (by decide +kernel) ⟨by rw [hR]; exact Nat.le_of_ble_eq_true rfl, by rw [hR]; exact Nat.le_of_ble_eq_true rfl⟩ hN hS rfl hl.1 rfl (Nat.le_of_ble_eq_true rfl) dX7_refresh_167 ⟨Nat.zero_le _, Nat.zero_le _⟩ (fun r8139 locs hp hS => ?_)
        rcases hp with ⟨rfl, hp⟩ | ⟨rfl, hp⟩
        · skip
          try simp only [rg, not_and, Int.not_le] at hp
          have hp8140 := hp
          refine lv_if_eq (tgt := 183) hx hb dX7_refresh_170 (by decide) (fun c => absurd c (by decide)) (fun _ => ?_)
          refine lv_aload_n hx hb dX7_refresh_173 rfl (lv_at hl 2 rfl) ?_
          obtain ⟨a8141, a8143, a8145, a8147, a8149, a8151, w8153, hO, hq8142, hq8144, hq8146, hq8148, hq8150, hq8152⟩ := op_9 hI hG0 List.not_mem_nil
          have hI := th_I.weak (a := h0) hI
          refine th_get hx hb hts inT7 hown hK hO rfl 5 (by decide) (hts _ (tb_c wd_194)) rfl rfl dX7_refresh_174 ?_
          refine lv_iload_n hx hb dX7_refresh_177 rfl (lv_at hl 0 rfl) ?_
          refine lv_dup2_11 hx hb dX7_refresh_178 rfl rfl ?_
          obtain ⟨_, hA8154⟩ := op_0 hI hq8152 (th_ne hG0 hq8152 (show (9 : Nat) ≠ 0 by decide))
          refine th_iald hx hb hK hA8154 0 rfl (iv_in (X := r8138.toInt) rfl (by omega) (by omega)) dX7_refresh_179 (fun v8155 _ => ?_)
          refine lv_iconst (v := 1) hx hb dX7_refresh_180 (by decide) ?_
          refine lv_iadd hx hb dX7_refresh_181 ?_
          refine lv_topi (fun v8156 e8157 => ?_)
          try have tv8156 : v8156.toInt = v8155.toInt + (1) := iv_add rfl (by decide) e8157 (by omega) (by omega)
          obtain ⟨_, hA8158⟩ := op_0 hI hq8152 (th_ne hG0 hq8152 (show (9 : Nat) ≠ 0 by decide))
          refine th_iast hx hb hK hA8158 0 rfl hS ⟨_, hq8152⟩ (iv_in (X := r8138.toInt) rfl (by omega) (by omega)) dX7_refresh_182 (fun H locs hA8158 oq hS => ?_)
          have hI := th_I.put hI hq8152 hA8158 ok_0 oq
          have hO := hO.kept (oq _ (fun z => th_ne hG0 hq8152 (show (9 : Nat) ≠ 0 by decide) (List.mem_singleton.mpr z.symm)))
          obtain ⟨v8159, e8160⟩ : ∃ y : Int32, y = v8047 + (1) := ⟨_, rfl⟩
          have tv8159 : v8159.toInt = v8047.toInt + (1) := iv_add rfl (by decide) e8160 (by omega) (by omega)
          refine lv_iinc (v := v8159) (lv' := [(1, .int v8159), (2, .int r8138), (0, .ref h0)]) hx hb dX7_refresh_183 hl (k := 1) rfl (by rw [e8160]; rfl) (by decide) rfl (fun ls hl => ?_)
          refine lv_goto (tgt := 139) hx hb dX7_refresh_186 (by decide) ?_
          have hI := th_I.close hI hG0 hO (ok_9 hq8142 hq8144 hq8146 hq8148 hq8150 hq8152)
          exact ih_139 _ (by omega) H locs ls v8159 rfl (lv_sub hl [0, 2] rfl) ⟨by omega, by omega⟩ hI hS
        · skip
          try simp only [rg, not_and, Int.not_le] at hp
          have hp8161 := hp
          refine lv_if_eq (tgt := 183) hx hb dX7_refresh_170 (by decide) (fun _ => ?_) (fun c => absurd c (by decide))
          obtain ⟨v8162, e8163⟩ : ∃ y : Int32, y = v8047 + (1) := ⟨_, rfl⟩
          have tv8162 : v8162.toInt = v8047.toInt + (1) := iv_add rfl (by decide) e8163 (by omega) (by omega)
          refine lv_iinc (v := v8162) (lv' := [(1, .int v8162), (2, .int r8138), (0, .ref h0)]) hx hb dX7_refresh_183 hl (k := 1) rfl (by rw [e8163]; rfl) (by decide) rfl (fun ls hl => ?_)
          refine lv_goto (tgt := 139) hx hb dX7_refresh_186 (by decide) ?_
          exact ih_139 _ (by omega) H locs ls v8162 rfl (lv_sub hl [0, 2] rfl) ⟨by omega, by omega⟩ hI hS
  have J_47 : ∀ (nn : Nat) (H : Heap) (locs : List Loc) (ls : Array Slot) (v8164 : Int32), (Int.toNat (9 - v8164.toInt) = nn) → lv_has ls 4 [(1, .int v8164), (0, .ref h0)] → ((0 : Int) ≤ v8164.toInt ∧ v8164.toInt ≤ 9) → th_I (okC E) D G [] H → va_S (th_A G) s.heap H locs → W p l e R s m args below meth c H locs 0 0 QF (F0 m 47 ls []) := by
    intro nn
    induction nn using Nat.strongRecOn with
    | ind nn ih_47 =>
      intro H locs ls v8164 hm hl k8165 hI hS
      have J_131 : ∀ (H : Heap) (locs : List Loc) (ls : Array Slot) (v8166 : Int32) (v8167 : Int32) (v8168 : Int32), lv_has ls 4 [(3, .int v8166), (2, .int v8167), (1, .int v8168), (0, .ref h0)] → ((0 : Int) ≤ v8168.toInt ∧ v8168.toInt ≤ 8) → th_I (okC E) D G [] H → va_S (th_A G) s.heap H locs → W p l e R s m args below meth c H locs 0 0 QF (F0 m 131 ls []) := by
        intro H locs ls v8166 v8167 v8168 hl k8169 hI hS
        obtain ⟨v8170, e8171⟩ : ∃ y : Int32, y = v8168 + (1) := ⟨_, rfl⟩
        have tv8170 : v8170.toInt = v8168.toInt + (1) := iv_add rfl (by decide) e8171 (by omega) (by omega)
        refine lv_iinc (v := v8170) (lv' := [(1, .int v8170), (3, .int v8166), (2, .int v8167), (0, .ref h0)]) hx hb dX7_refresh_131 hl (k := 2) rfl (by rw [e8171]; rfl) (by decide) rfl (fun ls hl => ?_)
        refine lv_goto (tgt := 47) hx hb dX7_refresh_134 (by decide) ?_
        exact ih_47 _ (by omega) H locs ls v8170 rfl (lv_sub hl [0, 3] rfl) ⟨by omega, by omega⟩ hI hS
      have J_87 : ∀ (nn : Nat) (H : Heap) (locs : List Loc) (ls : Array Slot) (v8172 : Int32) (v8173 : Int32) (v8174 : Int32), (Int.toNat (96 - v8172.toInt) = nn) → lv_has ls 4 [(3, .int v8172), (2, .int v8173), (1, .int v8174), (0, .ref h0)] → ((0 : Int) ≤ v8174.toInt ∧ v8174.toInt ≤ 8) → th_I (okC E) D G [] H → va_S (th_A G) s.heap H locs → W p l e R s m args below meth c H locs 0 0 QF (F0 m 87 ls []) := by
        intro nn
        induction nn using Nat.strongRecOn with
        | ind nn ih_87 =>
          intro H locs ls v8172 v8173 v8174 hm hl k8175 hI hS
          refine lv_iload_n hx hb dX7_refresh_87 rfl (lv_at hl 0 rfl) ?_
          refine lv_if_lt (tgt := 131) hx hb dX7_refresh_88 (by decide) (fun c8176 => ?_) (fun c8176 => ?_)
          · skip
            have k8177 := iv_lt (X := v8172.toInt) (Y := (0)) rfl (by decide) c8176
            exact J_131 H locs ls v8172 v8173 v8174 (lv_sub hl [0, 1, 2, 3] rfl) ⟨by omega, by omega⟩ hI hS
          · skip
            have k8178 := iv_nlt (X := v8172.toInt) (Y := (0)) rfl (by decide) c8176
            refine lv_iload_n hx hb dX7_refresh_91 rfl (lv_at hl 0 rfl) ?_
            refine lv_iload_n hx hb dX7_refresh_92 rfl (lv_at hl 1 rfl) ?_
            refine lv_icmp_gt (tgt := 131) hx hb dX7_refresh_93 (by decide) (fun c8179 => ?_) (fun c8179 => ?_)
            · skip
              have k8180 := iv_lt (X := v8173.toInt) (Y := v8172.toInt) rfl rfl c8179
              exact J_131 H locs ls v8172 v8173 v8174 (lv_sub hl [0, 1, 2, 3] rfl) ⟨by omega, by omega⟩ hI hS
            · skip
              have k8181 := iv_nlt (X := v8173.toInt) (Y := v8172.toInt) rfl rfl c8179
              refine lv_iload_n hx hb dX7_refresh_96 rfl (lv_at hl 0 rfl) ?_
              refine lv_bipush (v := 96) hx hb dX7_refresh_97 (by decide) ?_
              refine lv_icmp_ge (tgt := 131) hx hb dX7_refresh_99 (by decide) (fun c8182 => ?_) (fun c8182 => ?_)
              · skip
                have k8183 := iv_le (X := (96)) (Y := v8172.toInt) (by decide) rfl c8182
                exact J_131 H locs ls v8172 v8173 v8174 (lv_sub hl [0, 1, 2, 3] rfl) ⟨by omega, by omega⟩ hI hS
              · skip
                have k8184 := iv_nle (X := (96)) (Y := v8172.toInt) (by decide) rfl c8182
                refine lv_aload_n hx hb dX7_refresh_102 rfl (lv_at hl 3 rfl) ?_
                obtain ⟨a8185, a8187, a8189, a8191, a8193, a8195, w8197, hO, hq8186, hq8188, hq8190, hq8192, hq8194, hq8196⟩ := op_9 hI hG0 List.not_mem_nil
                have hI := th_I.weak (a := h0) hI
                refine th_get hx hb hts inT7 hown hK hO rfl 4 (by decide) (hts _ (tb_c wd_193)) rfl rfl dX7_refresh_103 ?_
                refine lv_iload_n hx hb dX7_refresh_106 rfl (lv_at hl 0 rfl) ?_
                refine lv_dup2_11 hx hb dX7_refresh_107 rfl rfl ?_
                obtain ⟨_, hA8198⟩ := op_0 hI hq8194 (th_ne hG0 hq8194 (show (9 : Nat) ≠ 0 by decide))
                refine th_iald hx hb hK hA8198 0 rfl (iv_in (X := v8172.toInt) rfl (by omega) (by omega)) dX7_refresh_108 (fun v8199 _ => ?_)
                refine lv_iconst (v := 1) hx hb dX7_refresh_109 (by decide) ?_
                refine lv_aload_n hx hb dX7_refresh_110 rfl (lv_at hl 3 rfl) ?_
                refine th_get hx hb hts inT7 hown hK hO rfl 0 (by decide) (hts _ (tb_c wd_189)) rfl rfl dX7_refresh_111 ?_
                have hI := th_I.close hI hG0 hO (ok_9 hq8186 hq8188 hq8190 hq8192 hq8194 hq8196)
                obtain ⟨a8200, a8202, a8204, a8206, a8208, a8210, a8212, a8214, a8216, a8218, w8220, w8223, w8224, w8225, hO, hq8201, hq8203, hq8205, hq8207, hq8209, hq8211, hq8213, hq8215, hq8217, hq8219, ⟨k8221, k8222⟩⟩ := op_6 hI hq8186 List.not_mem_nil
                have hI := th_I.weak (a := a8185) hI
                refine th_getN hx hb hts inT6 hown hK hN hO rfl 2 (by decide) wn_62 rfl rfl dX7_refresh_114 ?_
                refine lv_iload_n hx hb dX7_refresh_117 rfl (lv_at hl 2 rfl) ?_
                refine lv_iconst (v := 0) hx hb dX7_refresh_118 (by decide) ?_
                have hI := th_I.close hI hq8186 hO (ok_6 hq8201 hq8203 hq8205 hq8207 hq8209 hq8211 hq8213 hq8215 hq8217 hq8219 ⟨by omega, by omega⟩)
                refine th_cVi (As := [.int v8174, .int 0]) (rest := [.int 1, .int v8199, .int v8172, .ref a8193]) (n := 2) (d := 0) ⟨hx, hb, hml, hown, hts⟩ (c_X4_at l E D G a8204 (8) hq8205 v8174 0) wd_544 wd_519 wd_520 wd_3 wd_521 (by decide +kernel) ⟨by rw [hR]; exact Nat.le_of_ble_eq_true rfl, by rw [hR]; exact Nat.le_of_ble_eq_true rfl⟩ hI hN hK hS (rc_4 hI hq8205 List.not_mem_nil) rfl rfl hl.1 rfl (Nat.le_of_ble_eq_true rfl) dX7_refresh_119 ⟨Nat.zero_le _, Nat.zero_le _⟩ (fun r8226 H locs hp hI hS => ?_)
                refine lv_ishl hx hb dX7_refresh_122 ?_
                refine lv_topi (fun v8227 e8228 => ?_)
                refine lv_ior hx hb dX7_refresh_123 ?_
                refine lv_topi (fun v8229 e8230 => ?_)
                obtain ⟨_, hA8231⟩ := op_0 hI hq8194 List.not_mem_nil
                refine th_iast hx hb hK hA8231 0 rfl hS ⟨_, hq8194⟩ (iv_in (X := v8172.toInt) rfl (by omega) (by omega)) dX7_refresh_124 (fun H locs hA8231 oq hS => ?_)
                have hI := th_I.put hI hq8194 hA8231 ok_0 oq
                obtain ⟨v8232, e8233⟩ : ∃ y : Int32, y = v8172 + (1) := ⟨_, rfl⟩
                have tv8232 : v8232.toInt = v8172.toInt + (1) := iv_add rfl (by decide) e8233 (by omega) (by omega)
                refine lv_iinc (v := v8232) (lv' := [(3, .int v8232), (2, .int v8173), (1, .int v8174), (0, .ref h0)]) hx hb dX7_refresh_125 hl (k := 0) rfl (by rw [e8233]; rfl) (by decide) rfl (fun ls hl => ?_)
                refine lv_goto (tgt := 87) hx hb dX7_refresh_128 (by decide) ?_
                exact ih_87 _ (by omega) H locs ls v8232 v8173 v8174 rfl (lv_sub hl [0, 1, 2, 3] rfl) ⟨by omega, by omega⟩ hI hS
      refine lv_iload_n hx hb dX7_refresh_47 rfl (lv_at hl 0 rfl) ?_
      refine lv_aload_n hx hb dX7_refresh_48 rfl (lv_at hl 1 rfl) ?_
      obtain ⟨a8234, a8236, a8238, a8240, a8242, a8244, w8246, hO, hq8235, hq8237, hq8239, hq8241, hq8243, hq8245⟩ := op_9 hI hG0 List.not_mem_nil
      have hI := th_I.weak (a := h0) hI
      refine th_get hx hb hts inT7 hown hK hO rfl 0 (by decide) (hts _ (tb_c wd_189)) rfl rfl dX7_refresh_49 ?_
      have hI := th_I.close hI hG0 hO (ok_9 hq8235 hq8237 hq8239 hq8241 hq8243 hq8245)
      obtain ⟨a8247, a8249, a8251, a8253, a8255, a8257, a8259, a8261, a8263, a8265, w8267, w8270, w8271, w8272, hO, hq8248, hq8250, hq8252, hq8254, hq8256, hq8258, hq8260, hq8262, hq8264, hq8266, ⟨k8268, k8269⟩⟩ := op_6 hI hq8235 List.not_mem_nil
      have hI := th_I.weak (a := a8234) hI
      refine th_getN hx hb hts inT6 hown hK hN hO rfl 2 (by decide) wn_62 rfl rfl dX7_refresh_52 ?_
      have hI := th_I.close hI hq8235 hO (ok_6 hq8248 hq8250 hq8252 hq8254 hq8256 hq8258 hq8260 hq8262 hq8264 hq8266 ⟨by omega, by omega⟩)
      obtain ⟨a8274, w8276, hO, hq8275, ⟨k8277, k8278⟩, k8279⟩ := op_4 hI hq8252 List.not_mem_nil
      have hI := th_I.weak (a := a8251) hI
      have k8280 : (nI 8).toInt = ((8 : Nat) : Int) := nI_toInt (by omega)
      refine th_cVs (As := []) (rest := [.int v8164]) (n := 0) (d := 0) ⟨hx, hb, hml, hown, hts⟩ (c_X4_size l E D H a8251 8 a8274 w8276 hO (by omega) (by omega) (by omega)) wd_543 wd_507 wd_508 wd_3 wd_509 (by decide +kernel) ⟨by rw [hR]; exact Nat.le_of_ble_eq_true rfl, by rw [hR]; exact Nat.le_of_ble_eq_true rfl⟩ hN hK hS ⟨_, hO⟩ rfl rfl hl.1 rfl (Nat.le_of_ble_eq_true rfl) dX7_refresh_55 ⟨Nat.zero_le _, Nat.zero_le _⟩ (fun r8273 locs hp hS => ?_)
      have hp := hp.symm
      subst hp
      refine lv_icmp_ge (tgt := 137) hx hb dX7_refresh_58 (by decide) (fun c8281 => ?_) (fun c8281 => ?_)
      · skip
        have k8282 := iv_le (X := w8276.toInt) (Y := v8164.toInt) rfl rfl c8281
        refine lv_iconst (v := 0) hx hb dX7_refresh_137 (by decide) ?_
        refine lv_istore_n (lv' := [(1, .int 0), (0, .ref h0)]) hx hb dX7_refresh_138 rfl hl (by decide) rfl (fun ls hl => ?_)
        have hI := th_I.close hI hq8252 hO (ok_4 hq8275 ⟨by omega, by omega⟩ (by omega))
        have zl : (0 : Int32).toInt = 0 := by decide
        exact J_139 _ H locs ls 0 rfl (lv_sub hl [0, 1] rfl) ⟨by decide, by decide⟩ hI hS
      · skip
        have k8283 := iv_nle (X := w8276.toInt) (Y := v8164.toInt) rfl rfl c8281
        refine lv_aload_n hx hb dX7_refresh_61 rfl (lv_at hl 1 rfl) ?_
        have hI := th_I.close hI hq8252 hO (ok_4 hq8275 ⟨by omega, by omega⟩ (by omega))
        obtain ⟨a8284, a8286, a8288, a8290, a8292, a8294, w8296, hO, hq8285, hq8287, hq8289, hq8291, hq8293, hq8295⟩ := op_9 hI hG0 List.not_mem_nil
        have hI := th_I.weak (a := h0) hI
        refine th_get hx hb hts inT7 hown hK hO rfl 0 (by decide) (hts _ (tb_c wd_189)) rfl rfl dX7_refresh_62 ?_
        have hI := th_I.close hI hG0 hO (ok_9 hq8285 hq8287 hq8289 hq8291 hq8293 hq8295)
        obtain ⟨a8297, a8299, a8301, a8303, a8305, a8307, a8309, a8311, a8313, a8315, w8317, w8320, w8321, w8322, hO, hq8298, hq8300, hq8302, hq8304, hq8306, hq8308, hq8310, hq8312, hq8314, hq8316, ⟨k8318, k8319⟩⟩ := op_6 hI hq8285 List.not_mem_nil
        have hI := th_I.weak (a := a8284) hI
        refine th_getN hx hb hts inT6 hown hK hN hO rfl 2 (by decide) wn_62 rfl rfl dX7_refresh_65 ?_
        refine lv_iload_n hx hb dX7_refresh_68 rfl (lv_at hl 0 rfl) ?_
        refine lv_iconst (v := 2) hx hb dX7_refresh_69 (by decide) ?_
        have hI := th_I.close hI hq8285 hO (ok_6 hq8298 hq8300 hq8302 hq8304 hq8306 hq8308 hq8310 hq8312 hq8314 hq8316 ⟨by omega, by omega⟩)
        refine th_cVi (As := [.int v8164, .int 2]) (rest := []) (n := 2) (d := 0) ⟨hx, hb, hml, hown, hts⟩ (c_X4_at l E D G a8301 (8) hq8302 v8164 2) wd_544 wd_519 wd_520 wd_3 wd_521 (by decide +kernel) ⟨by rw [hR]; exact Nat.le_of_ble_eq_true rfl, by rw [hR]; exact Nat.le_of_ble_eq_true rfl⟩ hI hN hK hS (rc_4 hI hq8302 List.not_mem_nil) rfl rfl hl.1 rfl (Nat.le_of_ble_eq_true rfl) dX7_refresh_70 ⟨Nat.zero_le _, Nat.zero_le _⟩ (fun r8323 H locs hp hI hS => ?_)
        refine lv_istore_n (lv' := [(2, .int r8323), (1, .int v8164), (0, .ref h0)]) hx hb dX7_refresh_73 rfl hl (by decide) rfl (fun ls hl => ?_)
        refine lv_aload_n hx hb dX7_refresh_74 rfl (lv_at hl 2 rfl) ?_
        obtain ⟨a8324, a8326, a8328, a8330, a8332, a8334, w8336, hO, hq8325, hq8327, hq8329, hq8331, hq8333, hq8335⟩ := op_9 hI hG0 List.not_mem_nil
        have hI := th_I.weak (a := h0) hI
        refine th_get hx hb hts inT7 hown hK hO rfl 0 (by decide) (hts _ (tb_c wd_189)) rfl rfl dX7_refresh_75 ?_
        have hI := th_I.close hI hG0 hO (ok_9 hq8325 hq8327 hq8329 hq8331 hq8333 hq8335)
        obtain ⟨a8337, a8339, a8341, a8343, a8345, a8347, a8349, a8351, a8353, a8355, w8357, w8360, w8361, w8362, hO, hq8338, hq8340, hq8342, hq8344, hq8346, hq8348, hq8350, hq8352, hq8354, hq8356, ⟨k8358, k8359⟩⟩ := op_6 hI hq8325 List.not_mem_nil
        have hI := th_I.weak (a := a8324) hI
        refine th_getN hx hb hts inT6 hown hK hN hO rfl 2 (by decide) wn_62 rfl rfl dX7_refresh_78 ?_
        refine lv_iload_n hx hb dX7_refresh_81 rfl (lv_at hl 1 rfl) ?_
        refine lv_iconst (v := 1) hx hb dX7_refresh_82 (by decide) ?_
        have hI := th_I.close hI hq8325 hO (ok_6 hq8338 hq8340 hq8342 hq8344 hq8346 hq8348 hq8350 hq8352 hq8354 hq8356 ⟨by omega, by omega⟩)
        refine th_cVi (As := [.int v8164, .int 1]) (rest := []) (n := 2) (d := 0) ⟨hx, hb, hml, hown, hts⟩ (c_X4_at l E D G a8341 (8) hq8342 v8164 1) wd_544 wd_519 wd_520 wd_3 wd_521 (by decide +kernel) ⟨by rw [hR]; exact Nat.le_of_ble_eq_true rfl, by rw [hR]; exact Nat.le_of_ble_eq_true rfl⟩ hI hN hK hS (rc_4 hI hq8342 List.not_mem_nil) rfl rfl hl.1 rfl (Nat.le_of_ble_eq_true rfl) dX7_refresh_83 ⟨Nat.zero_le _, Nat.zero_le _⟩ (fun r8363 H locs hp hI hS => ?_)
        refine lv_istore_n (lv' := [(3, .int r8363), (2, .int r8323), (1, .int v8164), (0, .ref h0)]) hx hb dX7_refresh_86 rfl hl (by decide) rfl (fun ls hl => ?_)
        exact J_87 _ H locs ls r8363 r8323 v8164 rfl (lv_sub hl [0, 1, 2, 3] rfl) ⟨by omega, by omega⟩ hI hS
  refine lv_aload_n hx hb dX7_refresh_0 rfl (lv_at hl 0 rfl) ?_
  obtain ⟨a8364, a8366, a8368, a8370, a8372, a8374, w8376, hO, hq8365, hq8367, hq8369, hq8371, hq8373, hq8375⟩ := op_9 hI hG0 List.not_mem_nil
  have hI := th_I.weak (a := h0) hI
  refine th_get hx hb hts inT7 hown hK hO rfl 6 (by decide) (hts _ (tb_c wd_195)) rfl rfl dX7_refresh_1 ?_
  refine lv_if_ne (tgt := 8) hx hb dX7_refresh_4 (by decide) (fun c8377 => ?_) (fun c8377 => ?_)
  · skip
    have k8378 := iv_ne (X := w8376.toInt) (Y := (0)) rfl (by decide) c8377
    refine lv_aload_n hx hb dX7_refresh_8 rfl (lv_at hl 0 rfl) ?_
    refine lv_iconst (v := 0) hx hb dX7_refresh_9 (by decide) ?_
    refine th_put (ty := .boolean) hx hb hts inT7 tyX7 tyX7_ok nmX7 hown hK hO hS ⟨_, hG0⟩ rfl 6 (by decide) (hts _ (tb_c wd_195)) rfl rfl (by decide +kernel) (by decide) rfl (Nat.le_of_ble_eq_true rfl) dX7_refresh_10 (fun H locs hO oq hS => ?_)
    have hI := th_I.moved hI oq
    have hO : va_at D vwCl (h0, .inr (7, [.ref a8364, .ref a8366, .ref a8368, .ref a8370, .ref a8372, .ref a8374, .int 0])) H := hO
    refine lv_aload_n hx hb dX7_refresh_13 rfl (lv_at hl 0 rfl) ?_
    refine th_get hx hb hts inT7 hown hK hO rfl 2 (by decide) (hts _ (tb_c wd_191)) rfl rfl dX7_refresh_14 ?_
    refine lv_iconst (v := 0) hx hb dX7_refresh_17 (by decide) ?_
    have hI := th_I.close hI hG0 hO (ok_9 hq8365 hq8367 hq8369 hq8371 hq8373 hq8375)
    refine th_cSv (As := [.ref a8368, .int 0]) (rest := []) (n := 2) (d := 0) ⟨hx, hb, hml, hown, hts⟩ (c_J7_fill_53178 l E D G a8368 (2304) hq8369 (by omega) 0) wd_540 wd_541 wd_15 wd_542 (by decide +kernel) ⟨by rw [hR]; exact Nat.le_of_ble_eq_true rfl, by rw [hR]; exact Nat.le_of_ble_eq_true rfl⟩ hI hN hK hS rfl hl.1 rfl (Nat.le_of_ble_eq_true rfl) dX7_refresh_18 ⟨Nat.zero_le _, Nat.zero_le _⟩ (fun H locs hI hS => ?_)
    refine lv_aload_n hx hb dX7_refresh_21 rfl (lv_at hl 0 rfl) ?_
    obtain ⟨a8380, a8382, a8384, a8386, a8388, a8390, w8392, hO, hq8381, hq8383, hq8385, hq8387, hq8389, hq8391⟩ := op_9 hI hG0 List.not_mem_nil
    have hI := th_I.weak (a := h0) hI
    refine th_get hx hb hts inT7 hown hK hO rfl 3 (by decide) (hts _ (tb_c wd_192)) rfl rfl dX7_refresh_22 ?_
    refine lv_iconst (v := 0) hx hb dX7_refresh_25 (by decide) ?_
    have hI := th_I.close hI hG0 hO (ok_9 hq8381 hq8383 hq8385 hq8387 hq8389 hq8391)
    refine th_cSv (As := [.ref a8386, .int 0]) (rest := []) (n := 2) (d := 0) ⟨hx, hb, hml, hown, hts⟩ (c_J7_fill_53178 l E D G a8386 (2304) hq8387 (by omega) 0) wd_540 wd_541 wd_15 wd_542 (by decide +kernel) ⟨by rw [hR]; exact Nat.le_of_ble_eq_true rfl, by rw [hR]; exact Nat.le_of_ble_eq_true rfl⟩ hI hN hK hS rfl hl.1 rfl (Nat.le_of_ble_eq_true rfl) dX7_refresh_26 ⟨Nat.zero_le _, Nat.zero_le _⟩ (fun H locs hI hS => ?_)
    refine lv_aload_n hx hb dX7_refresh_29 rfl (lv_at hl 0 rfl) ?_
    obtain ⟨a8394, a8396, a8398, a8400, a8402, a8404, w8406, hO, hq8395, hq8397, hq8399, hq8401, hq8403, hq8405⟩ := op_9 hI hG0 List.not_mem_nil
    have hI := th_I.weak (a := h0) hI
    refine th_get hx hb hts inT7 hown hK hO rfl 4 (by decide) (hts _ (tb_c wd_193)) rfl rfl dX7_refresh_30 ?_
    refine lv_iconst (v := 0) hx hb dX7_refresh_33 (by decide) ?_
    have hI := th_I.close hI hG0 hO (ok_9 hq8395 hq8397 hq8399 hq8401 hq8403 hq8405)
    refine th_cSv (As := [.ref a8402, .int 0]) (rest := []) (n := 2) (d := 0) ⟨hx, hb, hml, hown, hts⟩ (c_J7_fill_53178 l E D G a8402 (96) hq8403 (by omega) 0) wd_540 wd_541 wd_15 wd_542 (by decide +kernel) ⟨by rw [hR]; exact Nat.le_of_ble_eq_true rfl, by rw [hR]; exact Nat.le_of_ble_eq_true rfl⟩ hI hN hK hS rfl hl.1 rfl (Nat.le_of_ble_eq_true rfl) dX7_refresh_34 ⟨Nat.zero_le _, Nat.zero_le _⟩ (fun H locs hI hS => ?_)
    refine lv_aload_n hx hb dX7_refresh_37 rfl (lv_at hl 0 rfl) ?_
    obtain ⟨a8408, a8410, a8412, a8414, a8416, a8418, w8420, hO, hq8409, hq8411, hq8413, hq8415, hq8417, hq8419⟩ := op_9 hI hG0 List.not_mem_nil
    have hI := th_I.weak (a := h0) hI
    refine th_get hx hb hts inT7 hown hK hO rfl 5 (by decide) (hts _ (tb_c wd_194)) rfl rfl dX7_refresh_38 ?_
    refine lv_iconst (v := 0) hx hb dX7_refresh_41 (by decide) ?_
    have hI := th_I.close hI hG0 hO (ok_9 hq8409 hq8411 hq8413 hq8415 hq8417 hq8419)
    refine th_cSv (As := [.ref a8418, .int 0]) (rest := []) (n := 2) (d := 0) ⟨hx, hb, hml, hown, hts⟩ (c_J7_fill_53178 l E D G a8418 (24) hq8419 (by omega) 0) wd_540 wd_541 wd_15 wd_542 (by decide +kernel) ⟨by rw [hR]; exact Nat.le_of_ble_eq_true rfl, by rw [hR]; exact Nat.le_of_ble_eq_true rfl⟩ hI hN hK hS rfl hl.1 rfl (Nat.le_of_ble_eq_true rfl) dX7_refresh_42 ⟨Nat.zero_le _, Nat.zero_le _⟩ (fun H locs hI hS => ?_)
    refine lv_iconst (v := 0) hx hb dX7_refresh_45 (by decide) ?_
    refine lv_istore_n (lv' := [(1, .int 0), (0, .ref h0)]) hx hb dX7_refresh_46 rfl hl (by decide) rfl (fun ls hl => ?_)
    have zl : (0 : Int32).toInt = 0 := by decide
    exact J_47 _ H locs ls 0 rfl (lv_sub hl [0, 1] rfl) ⟨by decide, by decide⟩ hI hS
  · skip
    have k8422 := iv_eq (X := w8376.toInt) (Y := (0)) rfl (by decide) c8377
    have hI := th_I.close hI hG0 hO (ok_9 hq8365 hq8367 hq8369 hq8371 hq8373 hq8375)
    rw [hQ]
    exact W.vret hx hb hr (fun t ht hW => ⟨⟨(), rfl, trivial, by rw [ht]; exact hI, hN.warm hW, va_K.moved hW.alike hK⟩, hS.F ht⟩) hS.2.2 dX7_refresh_7
theorem dX7_walk_0 : decode cX7_walk 0 = .ok (.iload_n 2, 1) := by decide +kernel
theorem dX7_walk_1 : decode cX7_walk 1 = .ok (.invokestatic 47, 3) := by decide +kernel
theorem dX7_walk_4 : decode cX7_walk 4 = .ok (.ifCond .eq 12, 3) := by decide +kernel
theorem dX7_walk_7 : decode cX7_walk 7 = .ok (.aload_n 0, 1) := by decide +kernel
theorem dX7_walk_8 : decode cX7_walk 8 = .ok (.getfield 25, 3) := by decide +kernel
theorem dX7_walk_11 : decode cX7_walk 11 = .ok (.iload_n 2, 1) := by decide +kernel
theorem dX7_walk_12 : decode cX7_walk 12 = .ok (.iaload, 1) := by decide +kernel
theorem dX7_walk_13 : decode cX7_walk 13 = .ok (.goto 4, 3) := by decide +kernel
theorem dX7_walk_16 : decode cX7_walk 16 = .ok (.iconst 0, 1) := by decide +kernel
theorem dX7_walk_17 : decode cX7_walk 17 = .ok (.istore 4, 2) := by decide +kernel
theorem dX7_walk_19 : decode cX7_walk 19 = .ok (.iload_n 1, 1) := by decide +kernel
theorem dX7_walk_20 : decode cX7_walk 20 = .ok (.istore 5, 2) := by decide +kernel
theorem dX7_walk_22 : decode cX7_walk 22 = .ok (.iconst 0, 1) := by decide +kernel
theorem dX7_walk_23 : decode cX7_walk 23 = .ok (.istore 6, 2) := by decide +kernel
theorem dX7_walk_25 : decode cX7_walk 25 = .ok (.iload 6, 2) := by decide +kernel
theorem dX7_walk_27 : decode cX7_walk 27 = .ok (.iload_n 3, 1) := by decide +kernel
theorem dX7_walk_28 : decode cX7_walk 28 = .ok (.if_icmp .ge 29, 3) := by decide +kernel
theorem dX7_walk_31 : decode cX7_walk 31 = .ok (.iload 5, 2) := by decide +kernel
theorem dX7_walk_33 : decode cX7_walk 33 = .ok (.bipush 24, 2) := by decide +kernel
theorem dX7_walk_35 : decode cX7_walk 35 = .ok (.if_icmp .ge 22, 3) := by decide +kernel
theorem dX7_walk_38 : decode cX7_walk 38 = .ok (.iload 4, 2) := by decide +kernel
theorem dX7_walk_40 : decode cX7_walk 40 = .ok (.iload 5, 2) := by decide +kernel
theorem dX7_walk_42 : decode cX7_walk 42 = .ok (.ishr, 1) := by decide +kernel
theorem dX7_walk_43 : decode cX7_walk 43 = .ok (.iconst 1, 1) := by decide +kernel
theorem dX7_walk_44 : decode cX7_walk 44 = .ok (.iand, 1) := by decide +kernel
theorem dX7_walk_45 : decode cX7_walk 45 = .ok (.ifCond .ne 12, 3) := by decide +kernel
theorem dX7_walk_48 : decode cX7_walk 48 = .ok (.iinc 5 1, 3) := by decide +kernel
theorem dX7_walk_51 : decode cX7_walk 51 = .ok (.iinc 6 1, 3) := by decide +kernel
theorem dX7_walk_54 : decode cX7_walk 54 = .ok (.goto (-29), 3) := by decide +kernel
theorem dX7_walk_57 : decode cX7_walk 57 = .ok (.iconst 0, 1) := by decide +kernel
theorem dX7_walk_58 : decode cX7_walk 58 = .ok (.istore 6, 2) := by decide +kernel
theorem dX7_walk_60 : decode cX7_walk 60 = .ok (.iload 6, 2) := by decide +kernel
theorem dX7_walk_62 : decode cX7_walk 62 = .ok (.iload_n 3, 1) := by decide +kernel
theorem dX7_walk_63 : decode cX7_walk 63 = .ok (.if_icmp .le 29, 3) := by decide +kernel
theorem dX7_walk_66 : decode cX7_walk 66 = .ok (.iload 5, 2) := by decide +kernel
theorem dX7_walk_68 : decode cX7_walk 68 = .ok (.ifCond .le 24, 3) := by decide +kernel
theorem dX7_walk_71 : decode cX7_walk 71 = .ok (.iload 4, 2) := by decide +kernel
theorem dX7_walk_73 : decode cX7_walk 73 = .ok (.iload 5, 2) := by decide +kernel
theorem dX7_walk_75 : decode cX7_walk 75 = .ok (.iconst 1, 1) := by decide +kernel
theorem dX7_walk_76 : decode cX7_walk 76 = .ok (.isub, 1) := by decide +kernel
theorem dX7_walk_77 : decode cX7_walk 77 = .ok (.ishr, 1) := by decide +kernel
theorem dX7_walk_78 : decode cX7_walk 78 = .ok (.iconst 1, 1) := by decide +kernel
theorem dX7_walk_79 : decode cX7_walk 79 = .ok (.iand, 1) := by decide +kernel
theorem dX7_walk_80 : decode cX7_walk 80 = .ok (.ifCond .ne 12, 3) := by decide +kernel
theorem dX7_walk_83 : decode cX7_walk 83 = .ok (.iinc 5 (-1), 3) := by decide +kernel
theorem dX7_walk_86 : decode cX7_walk 86 = .ok (.iinc 6 (-1), 3) := by decide +kernel
theorem dX7_walk_89 : decode cX7_walk 89 = .ok (.goto (-29), 3) := by decide +kernel
theorem dX7_walk_92 : decode cX7_walk 92 = .ok (.iload 5, 2) := by decide +kernel
theorem dX7_walk_94 : decode cX7_walk 94 = .ok (.ireturn, 1) := by decide +kernel
set_option maxHeartbeats 4000000 in
set_option maxRecDepth 100000 in
theorem c_X7_walk (l : Launch) (E : Nat → ClassId) (D : va_G) (G : th_G) (h0 : Nat) (hG0 : G h0 = some (9, 0)) (x1 x2 x3 : Int32) : Met l yX7_walk (tb (.code yX7_walk cX7_walk 7 (some .int))) (rm 1) (va_Pc [.ref h0, .int x1, .int x2, .int x3] (th_P E D G)) (QI E D G (fun r => True)) 0 0 (th_A G) := by
  refine Met.ofW (cc := cX7_walk) (maxL := 7) (ret := (some .int)) (by decide) rfl ?_
  intro p e s m args below meth c s₁ B hml hv
  obtain ⟨hav, hI, hN, hK⟩ := hv
  have hx := B.exec
  have hb := B.bytes
  have hr := B.returns
  have hts := atoms_spec (ws := tb (.code yX7_walk cX7_walk 7 (some .int))) B.pre
  have hown : s.vm.findClass RX7 = some m.cls := findClass_of_methodNamed B.named
  have hlocks := B.notSynchronized
  have hS : va_S (th_A G) s.heap s.heap [] := va_S.rf
  have hl := lv_entry ([.ref h0, .int x1, .int x2, .int x3]) (n := 7) (Nat.le_of_ble_eq_true rfl)
  rw [show entryFrame m args 7 = entryFrame m ([.ref h0, .int x1, .int x2, .int x3] : List Value).toArray 7 from by rw [hav], lg_entry_eq]
  generalize (lg_sl ([.ref h0, .int x1, .int x2, .int x3]) ++ List.replicate (7 - (lg_sl ([.ref h0, .int x1, .int x2, .int x3])).length) Slot.unset).toArray = ls at hl ⊢
  have hl : lv_has ls 7 [(0, .ref h0), (1, .int x1), (2, .int x2), (3, .int x3)] := hl
  generalize hR : (headSpec (tb (.code yX7_walk cX7_walk 7 (some .int))) (rm 1)).room = R
  have hR := hR.symm
  generalize hQ : MQ below (QI E D G (fun r => True)) args s 0 0 (th_A G) = QF
  have hQ := hQ.symm
  have J_60 : ∀ (nn : Nat) (H : Heap) (locs : List Loc) (ls : Array Slot) (v1631 : Int32) (v1632 : Int32) (v1633 : Int32), (Int.toNat (v1632.toInt - (0)) = nn) → lv_has ls 7 [(6, .int v1631), (5, .int v1632), (4, .int v1633), (0, .ref h0), (1, .int x1), (2, .int x2), (3, .int x3)] → (v1631.toInt ≤ 0) → th_I (okC E) D G [] H → va_S (th_A G) s.heap H locs → W p l e R s m args below meth c H locs 0 0 QF (F0 m 60 ls []) := by
    intro nn
    induction nn using Nat.strongRecOn with
    | ind nn ih_60 =>
      intro H locs ls v1631 v1632 v1633 hm hl k1634 hI hS
      refine lv_iload hx hb dX7_walk_60 (lv_at hl 0 rfl) ?_
      refine lv_iload_n hx hb dX7_walk_62 rfl (lv_at hl 6 rfl) ?_
      refine lv_icmp_le (tgt := 92) hx hb dX7_walk_63 (by decide) (fun c1635 => ?_) (fun c1635 => ?_)
      · skip
        have k1636 := iv_le (X := v1631.toInt) (Y := x3.toInt) rfl rfl c1635
        refine lv_iload hx hb dX7_walk_92 (lv_at hl 1 rfl) ?_
        have hpost : True := trivial
        rw [hQ]
        exact W.iret (v := v1632) hx hb hr (fun t ht hW => ⟨⟨v1632, (), rfl, hpost, by rw [ht]; exact hI, hN.warm hW, va_K.moved hW.alike hK⟩, hS.F ht⟩) hS.2.2 dX7_walk_94
      · skip
        have k1637 := iv_nle (X := v1631.toInt) (Y := x3.toInt) rfl rfl c1635
        refine lv_iload hx hb dX7_walk_66 (lv_at hl 1 rfl) ?_
        refine lv_if_le (tgt := 92) hx hb dX7_walk_68 (by decide) (fun c1638 => ?_) (fun c1638 => ?_)
        · skip
          have k1639 := iv_le (X := v1632.toInt) (Y := (0)) rfl (by decide) c1638
          refine lv_iload hx hb dX7_walk_92 (lv_at hl 1 rfl) ?_
          have hpost : True := trivial
          rw [hQ]
          exact W.iret (v := v1632) hx hb hr (fun t ht hW => ⟨⟨v1632, (), rfl, hpost, by rw [ht]; exact hI, hN.warm hW, va_K.moved hW.alike hK⟩, hS.F ht⟩) hS.2.2 dX7_walk_94
        · skip
          have k1640 := iv_nle (X := v1632.toInt) (Y := (0)) rfl (by decide) c1638
          refine lv_iload hx hb dX7_walk_71 (lv_at hl 2 rfl) ?_
          refine lv_iload hx hb dX7_walk_73 (lv_at hl 1 rfl) ?_
          refine lv_iconst (v := 1) hx hb dX7_walk_75 (by decide) ?_
          refine lv_isub hx hb dX7_walk_76 ?_
          refine lv_topi (fun v1641 e1642 => ?_)
          have k1643 := iv_lo v1632
          have k1644 := iv_hi v1632
          have tv1641 : v1641.toInt = v1632.toInt - (1) := iv_sub rfl (by decide) e1642 (by omega) (by omega)
          refine lv_ishr hx hb dX7_walk_77 ?_
          refine lv_topi (fun v1645 e1646 => ?_)
          refine lv_iconst (v := 1) hx hb dX7_walk_78 (by decide) ?_
          refine lv_iand hx hb dX7_walk_79 ?_
          refine lv_topi (fun v1647 e1648 => ?_)
          have tv1647 := iv_andr (m := 1) (M := 1) e1648 (by decide) (by decide)
          refine lv_if_ne (tgt := 92) hx hb dX7_walk_80 (by decide) (fun c1649 => ?_) (fun c1649 => ?_)
          · skip
            have k1650 := iv_ne (X := v1647.toInt) (Y := (0)) rfl (by decide) c1649
            refine lv_iload hx hb dX7_walk_92 (lv_at hl 1 rfl) ?_
            have hpost : True := trivial
            rw [hQ]
            exact W.iret (v := v1632) hx hb hr (fun t ht hW => ⟨⟨v1632, (), rfl, hpost, by rw [ht]; exact hI, hN.warm hW, va_K.moved hW.alike hK⟩, hS.F ht⟩) hS.2.2 dX7_walk_94
          · skip
            have k1651 := iv_eq (X := v1647.toInt) (Y := (0)) rfl (by decide) c1649
            obtain ⟨v1652, e1653⟩ : ∃ y : Int32, y = v1632 + (-1) := ⟨_, rfl⟩
            have tv1652 : v1652.toInt = v1632.toInt + (-1) := iv_add rfl (by decide) e1653 (by omega) (by omega)
            refine lv_iinc (v := v1652) (lv' := [(5, .int v1652), (6, .int v1631), (4, .int v1633), (0, .ref h0), (1, .int x1), (2, .int x2), (3, .int x3)]) hx hb dX7_walk_83 hl (k := 1) rfl (by rw [e1653]; rfl) (by decide) rfl (fun ls hl => ?_)
            obtain ⟨v1654, e1655⟩ : ∃ y : Int32, y = v1631 + (-1) := ⟨_, rfl⟩
            have tv1654 : v1654.toInt = v1631.toInt + (-1) := iv_add rfl (by decide) e1655 (by omega) (by omega)
            refine lv_iinc (v := v1654) (lv' := [(6, .int v1654), (5, .int v1652), (4, .int v1633), (0, .ref h0), (1, .int x1), (2, .int x2), (3, .int x3)]) hx hb dX7_walk_86 hl (k := 1) rfl (by rw [e1655]; rfl) (by decide) rfl (fun ls hl => ?_)
            refine lv_goto (tgt := 60) hx hb dX7_walk_89 (by decide) ?_
            exact ih_60 _ (by omega) H locs ls v1654 v1652 v1633 rfl (lv_sub hl [0, 1, 2, 3, 4, 5, 6] rfl) (by omega) hI hS
  have J_57 : ∀ (H : Heap) (locs : List Loc) (ls : Array Slot) (v1656 : Int32) (v1657 : Int32) (v1658 : Int32), lv_has ls 7 [(6, .int v1656), (5, .int v1657), (4, .int v1658), (0, .ref h0), (1, .int x1), (2, .int x2), (3, .int x3)] → ((0 : Int) ≤ v1656.toInt) → th_I (okC E) D G [] H → va_S (th_A G) s.heap H locs → W p l e R s m args below meth c H locs 0 0 QF (F0 m 57 ls []) := by
    intro H locs ls v1656 v1657 v1658 hl k1659 hI hS
    refine lv_iconst (v := 0) hx hb dX7_walk_57 (by decide) ?_
    refine lv_istore (lv' := [(6, .int 0), (5, .int v1657), (4, .int v1658), (0, .ref h0), (1, .int x1), (2, .int x2), (3, .int x3)]) hx hb dX7_walk_58 hl (by decide) rfl (fun ls hl => ?_)
    exact J_60 _ H locs ls 0 v1657 v1658 rfl (lv_sub hl [0, 1, 2, 3, 4, 5, 6] rfl) (by decide) hI hS
  have J_25 : ∀ (nn : Nat) (H : Heap) (locs : List Loc) (ls : Array Slot) (v1660 : Int32) (v1661 : Int32) (v1662 : Int32), (Int.toNat (24 - v1661.toInt) = nn) → lv_has ls 7 [(6, .int v1660), (5, .int v1661), (4, .int v1662), (0, .ref h0), (1, .int x1), (2, .int x2), (3, .int x3)] → ((0 : Int) ≤ v1660.toInt) → th_I (okC E) D G [] H → va_S (th_A G) s.heap H locs → W p l e R s m args below meth c H locs 0 0 QF (F0 m 25 ls []) := by
    intro nn
    induction nn using Nat.strongRecOn with
    | ind nn ih_25 =>
      intro H locs ls v1660 v1661 v1662 hm hl k1663 hI hS
      refine lv_iload hx hb dX7_walk_25 (lv_at hl 0 rfl) ?_
      refine lv_iload_n hx hb dX7_walk_27 rfl (lv_at hl 6 rfl) ?_
      refine lv_icmp_ge (tgt := 57) hx hb dX7_walk_28 (by decide) (fun c1664 => ?_) (fun c1664 => ?_)
      · skip
        have k1665 := iv_le (X := x3.toInt) (Y := v1660.toInt) rfl rfl c1664
        exact J_57 H locs ls v1660 v1661 v1662 (lv_sub hl [0, 1, 2, 3, 4, 5, 6] rfl) (by omega) hI hS
      · skip
        have k1666 := iv_nle (X := x3.toInt) (Y := v1660.toInt) rfl rfl c1664
        refine lv_iload hx hb dX7_walk_31 (lv_at hl 1 rfl) ?_
        refine lv_bipush (v := 24) hx hb dX7_walk_33 (by decide) ?_
        refine lv_icmp_ge (tgt := 57) hx hb dX7_walk_35 (by decide) (fun c1667 => ?_) (fun c1667 => ?_)
        · skip
          have k1668 := iv_le (X := (24)) (Y := v1661.toInt) (by decide) rfl c1667
          exact J_57 H locs ls v1660 v1661 v1662 (lv_sub hl [0, 1, 2, 3, 4, 5, 6] rfl) (by omega) hI hS
        · skip
          have k1669 := iv_nle (X := (24)) (Y := v1661.toInt) (by decide) rfl c1667
          refine lv_iload hx hb dX7_walk_38 (lv_at hl 2 rfl) ?_
          refine lv_iload hx hb dX7_walk_40 (lv_at hl 1 rfl) ?_
          refine lv_ishr hx hb dX7_walk_42 ?_
          refine lv_topi (fun v1670 e1671 => ?_)
          refine lv_iconst (v := 1) hx hb dX7_walk_43 (by decide) ?_
          refine lv_iand hx hb dX7_walk_44 ?_
          refine lv_topi (fun v1672 e1673 => ?_)
          have tv1672 := iv_andr (m := 1) (M := 1) e1673 (by decide) (by decide)
          refine lv_if_ne (tgt := 57) hx hb dX7_walk_45 (by decide) (fun c1674 => ?_) (fun c1674 => ?_)
          · skip
            have k1675 := iv_ne (X := v1672.toInt) (Y := (0)) rfl (by decide) c1674
            exact J_57 H locs ls v1660 v1661 v1662 (lv_sub hl [0, 1, 2, 3, 4, 5, 6] rfl) (by omega) hI hS
          · skip
            have k1676 := iv_eq (X := v1672.toInt) (Y := (0)) rfl (by decide) c1674
            obtain ⟨v1677, e1678⟩ : ∃ y : Int32, y = v1661 + (1) := ⟨_, rfl⟩
            have tv1677 : v1677.toInt = v1661.toInt + (1) := iv_add rfl (by decide) e1678 (by omega) (by omega)
            refine lv_iinc (v := v1677) (lv' := [(5, .int v1677), (6, .int v1660), (4, .int v1662), (0, .ref h0), (1, .int x1), (2, .int x2), (3, .int x3)]) hx hb dX7_walk_48 hl (k := 1) rfl (by rw [e1678]; rfl) (by decide) rfl (fun ls hl => ?_)
            obtain ⟨v1679, e1680⟩ : ∃ y : Int32, y = v1660 + (1) := ⟨_, rfl⟩
            have tv1679 : v1679.toInt = v1660.toInt + (1) := iv_add rfl (by decide) e1680 (by omega) (by omega)
            refine lv_iinc (v := v1679) (lv' := [(6, .int v1679), (5, .int v1677), (4, .int v1662), (0, .ref h0), (1, .int x1), (2, .int x2), (3, .int x3)]) hx hb dX7_walk_51 hl (k := 1) rfl (by rw [e1680]; rfl) (by decide) rfl (fun ls hl => ?_)
            refine lv_goto (tgt := 25) hx hb dX7_walk_54 (by decide) ?_
            exact ih_25 _ (by omega) H locs ls v1679 v1677 v1662 rfl (lv_sub hl [0, 1, 2, 3, 4, 5, 6] rfl) (by omega) hI hS
  have J_17 : ∀ (H : Heap) (locs : List Loc) (ls : Array Slot) (v1681 : Int32), lv_has ls 7 [(0, .ref h0), (1, .int x1), (2, .int x2), (3, .int x3)] → th_I (okC E) D G [] H → va_S (th_A G) s.heap H locs → W p l e R s m args below meth c H locs 0 0 QF (F0 m 17 ls [.int v1681]) := by
    intro H locs ls v1681 hl  hI hS
    refine lv_istore (lv' := [(4, .int v1681), (0, .ref h0), (1, .int x1), (2, .int x2), (3, .int x3)]) hx hb dX7_walk_17 hl (by decide) rfl (fun ls hl => ?_)
    refine lv_iload_n hx hb dX7_walk_19 rfl (lv_at hl 2 rfl) ?_
    refine lv_istore (lv' := [(5, .int x1), (4, .int v1681), (0, .ref h0), (1, .int x1), (2, .int x2), (3, .int x3)]) hx hb dX7_walk_20 hl (by decide) rfl (fun ls hl => ?_)
    refine lv_iconst (v := 0) hx hb dX7_walk_22 (by decide) ?_
    refine lv_istore (lv' := [(6, .int 0), (5, .int x1), (4, .int v1681), (0, .ref h0), (1, .int x1), (2, .int x2), (3, .int x3)]) hx hb dX7_walk_23 hl (by decide) rfl (fun ls hl => ?_)
    exact J_25 _ H locs ls 0 x1 v1681 rfl (lv_sub hl [0, 1, 2, 3, 4, 5, 6] rfl) (by decide) hI hS
  refine lv_iload_n hx hb dX7_walk_0 rfl (lv_at hl 2 rfl) ?_
  refine th_cSN (As := [.int x2]) (rest := []) (n := 1) (d := 0) ⟨hx, hb, hml, hown, hts⟩ (c_X11_isHour l s.heap x2) wn_535 wd_467 wd_1 wd_468 (by decide +kernel) ⟨by rw [hR]; exact Nat.le_of_ble_eq_true rfl, by rw [hR]; exact Nat.le_of_ble_eq_true rfl⟩ hN hS rfl hl.1 rfl (Nat.le_of_ble_eq_true rfl) dX7_walk_1 ⟨Nat.zero_le _, Nat.zero_le _⟩ (fun r1682 locs hp hS => ?_)
  rcases hp with ⟨rfl, hp⟩ | ⟨rfl, hp⟩
  · skip
    try simp only [rg, not_and, Int.not_le] at hp
    have hp1683 := hp
    refine lv_if_eq (tgt := 16) hx hb dX7_walk_4 (by decide) (fun c => absurd c (by decide)) (fun _ => ?_)
    refine lv_aload_n hx hb dX7_walk_7 rfl (lv_at hl 0 rfl) ?_
    obtain ⟨a1684, a1686, a1688, a1690, a1692, a1694, w1696, hO, hq1685, hq1687, hq1689, hq1691, hq1693, hq1695⟩ := op_9 hI hG0 List.not_mem_nil
    have hI := th_I.weak (a := h0) hI
    refine th_get hx hb hts inT7 hown hK hO rfl 4 (by decide) (hts _ (tb_c wd_193)) rfl rfl dX7_walk_8 ?_
    refine lv_iload_n hx hb dX7_walk_11 rfl (lv_at hl 2 rfl) ?_
    obtain ⟨_, hA1697⟩ := op_0 hI hq1693 (th_ne hG0 hq1693 (show (9 : Nat) ≠ 0 by decide))
    refine th_iald hx hb hK hA1697 0 rfl (iv_in (X := x2.toInt) rfl (by omega) (by omega)) dX7_walk_12 (fun v1698 _ => ?_)
    refine lv_goto (tgt := 17) hx hb dX7_walk_13 (by decide) ?_
    have hI := th_I.close hI hG0 hO (ok_9 hq1685 hq1687 hq1689 hq1691 hq1693 hq1695)
    exact J_17 s.heap locs ls v1698 (lv_sub hl [0, 1, 2, 3] rfl)  hI hS
  · skip
    try simp only [rg, not_and, Int.not_le] at hp
    have hp1699 := hp
    refine lv_if_eq (tgt := 16) hx hb dX7_walk_4 (by decide) (fun _ => ?_) (fun c => absurd c (by decide))
    refine lv_iconst (v := 0) hx hb dX7_walk_16 (by decide) ?_
    exact J_17 s.heap locs ls 0 (lv_sub hl [0, 1, 2, 3] rfl)  hI hS
