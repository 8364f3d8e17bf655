theorem wp_62 : Cond.selects RX12 yX12_reads yX12_reads ∈ TB := tv 62 (by decide +kernel) (by decide +kernel)
theorem wd_1564 : (Cond.methodLink RX12 (213 : Nat) yX12_reads) ∈ TB := tw 1564 (by decide +kernel) (by decide +kernel)
theorem wd_1566 : (Jvm.Cond.instanceMethod yX12_reads) ∈ TB := tw 1566 (by decide +kernel) (by decide +kernel)
theorem wd_1567 : (Cond.code yX12_reads cX12_reads 2 (Option.some Jvm.ClassFile.FieldType.boolean)) ∈ TB := tw 1567 (by decide +kernel) (by decide +kernel)
theorem dX12_law_0g : (decode cX12_law 0 = .ok (.aload_n 0, 1)) ∧ (decode cX12_law 1 = .ok (.getfield 20, 3)) ∧ (decode cX12_law 4 = .ok (.sipush 315, 3)) ∧ (decode cX12_law 7 = .ok (.iaload, 1)) ∧ (decode cX12_law 8 = .ok (.bipush 6, 2)) ∧ (decode cX12_law 10 = .ok (.if_icmp .ne 15, 3)) ∧ (decode cX12_law 13 = .ok (.aload_n 0, 1)) ∧ (decode cX12_law 14 = .ok (.iconst 0, 1)) ∧ (decode cX12_law 15 = .ok (.putfield 132, 3)) ∧ (decode cX12_law 18 = .ok (.aload_n 0, 1)) := by decide +kernel
theorem dX12_law_0 : decode cX12_law 0 = .ok (.aload_n 0, 1) := dX12_law_0g.1
theorem dX12_law_1 : decode cX12_law 1 = .ok (.getfield 20, 3) := dX12_law_0g.2.1
theorem dX12_law_4 : decode cX12_law 4 = .ok (.sipush 315, 3) := dX12_law_0g.2.2.1
theorem dX12_law_7 : decode cX12_law 7 = .ok (.iaload, 1) := dX12_law_0g.2.2.2.1
theorem dX12_law_8 : decode cX12_law 8 = .ok (.bipush 6, 2) := dX12_law_0g.2.2.2.2.1
theorem dX12_law_10 : decode cX12_law 10 = .ok (.if_icmp .ne 15, 3) := dX12_law_0g.2.2.2.2.2.1
theorem dX12_law_13 : decode cX12_law 13 = .ok (.aload_n 0, 1) := dX12_law_0g.2.2.2.2.2.2.1
theorem dX12_law_14 : decode cX12_law 14 = .ok (.iconst 0, 1) := dX12_law_0g.2.2.2.2.2.2.2.1
theorem dX12_law_15 : decode cX12_law 15 = .ok (.putfield 132, 3) := dX12_law_0g.2.2.2.2.2.2.2.2.1
theorem dX12_law_18 : decode cX12_law 18 = .ok (.aload_n 0, 1) := dX12_law_0g.2.2.2.2.2.2.2.2.2
theorem dX12_law_19g : (decode cX12_law 19 = .ok (.bipush (-5), 2)) ∧ (decode cX12_law 21 = .ok (.invokevirtual 107, 3)) ∧ (decode cX12_law 24 = .ok (.ireturn, 1)) ∧ (decode cX12_law 25 = .ok (.aload_n 0, 1)) ∧ (decode cX12_law 26 = .ok (.invokevirtual 213, 3)) ∧ (decode cX12_law 29 = .ok (.ifCond .ne 10, 3)) ∧ (decode cX12_law 32 = .ok (.aload_n 0, 1)) ∧ (decode cX12_law 33 = .ok (.bipush (-6), 2)) ∧ (decode cX12_law 35 = .ok (.invokevirtual 107, 3)) ∧ (decode cX12_law 38 = .ok (.ireturn, 1)) := by decide +kernel
theorem dX12_law_19 : decode cX12_law 19 = .ok (.bipush (-5), 2) := dX12_law_19g.1
theorem dX12_law_21 : decode cX12_law 21 = .ok (.invokevirtual 107, 3) := dX12_law_19g.2.1
theorem dX12_law_24 : decode cX12_law 24 = .ok (.ireturn, 1) := dX12_law_19g.2.2.1
theorem dX12_law_25 : decode cX12_law 25 = .ok (.aload_n 0, 1) := dX12_law_19g.2.2.2.1
theorem dX12_law_26 : decode cX12_law 26 = .ok (.invokevirtual 213, 3) := dX12_law_19g.2.2.2.2.1
theorem dX12_law_29 : decode cX12_law 29 = .ok (.ifCond .ne 10, 3) := dX12_law_19g.2.2.2.2.2.1
theorem dX12_law_32 : decode cX12_law 32 = .ok (.aload_n 0, 1) := dX12_law_19g.2.2.2.2.2.2.1
theorem dX12_law_33 : decode cX12_law 33 = .ok (.bipush (-6), 2) := dX12_law_19g.2.2.2.2.2.2.2.1
theorem dX12_law_35 : decode cX12_law 35 = .ok (.invokevirtual 107, 3) := dX12_law_19g.2.2.2.2.2.2.2.2.1
theorem dX12_law_38 : decode cX12_law 38 = .ok (.ireturn, 1) := dX12_law_19g.2.2.2.2.2.2.2.2.2
theorem dX12_law_39g : (decode cX12_law 39 = .ok (.aload_n 0, 1)) ∧ (decode cX12_law 40 = .ok (.getfield 20, 3)) ∧ (decode cX12_law 43 = .ok (.sipush 315, 3)) ∧ (decode cX12_law 46 = .ok (.iaload, 1)) ∧ (decode cX12_law 47 = .ok (.istore_n 1, 1)) ∧ (decode cX12_law 48 = .ok (.aload_n 0, 1)) ∧ (decode cX12_law 49 = .ok (.getfield 20, 3)) ∧ (decode cX12_law 52 = .ok (.sipush 317, 3)) ∧ (decode cX12_law 55 = .ok (.iload_n 1, 1)) ∧ (decode cX12_law 56 = .ok (.iadd, 1)) := by decide +kernel
theorem dX12_law_39 : decode cX12_law 39 = .ok (.aload_n 0, 1) := dX12_law_39g.1
theorem dX12_law_40 : decode cX12_law 40 = .ok (.getfield 20, 3) := dX12_law_39g.2.1
theorem dX12_law_43 : decode cX12_law 43 = .ok (.sipush 315, 3) := dX12_law_39g.2.2.1
theorem dX12_law_46 : decode cX12_law 46 = .ok (.iaload, 1) := dX12_law_39g.2.2.2.1
theorem dX12_law_47 : decode cX12_law 47 = .ok (.istore_n 1, 1) := dX12_law_39g.2.2.2.2.1
theorem dX12_law_48 : decode cX12_law 48 = .ok (.aload_n 0, 1) := dX12_law_39g.2.2.2.2.2.1
theorem dX12_law_49 : decode cX12_law 49 = .ok (.getfield 20, 3) := dX12_law_39g.2.2.2.2.2.2.1
theorem dX12_law_52 : decode cX12_law 52 = .ok (.sipush 317, 3) := dX12_law_39g.2.2.2.2.2.2.2.1
theorem dX12_law_55 : decode cX12_law 55 = .ok (.iload_n 1, 1) := dX12_law_39g.2.2.2.2.2.2.2.2.1
theorem dX12_law_56 : decode cX12_law 56 = .ok (.iadd, 1) := dX12_law_39g.2.2.2.2.2.2.2.2.2
theorem dX12_law_57g : (decode cX12_law 57 = .ok (.aload_n 0, 1)) ∧ (decode cX12_law 58 = .ok (.getfield 145, 3)) ∧ (decode cX12_law 61 = .ok (.iastore, 1)) ∧ (decode cX12_law 62 = .ok (.iconst 0, 1)) ∧ (decode cX12_law 63 = .ok (.istore_n 2, 1)) ∧ (decode cX12_law 64 = .ok (.iload_n 2, 1)) ∧ (decode cX12_law 65 = .ok (.aload_n 0, 1)) ∧ (decode cX12_law 66 = .ok (.getfield 145, 3)) ∧ (decode cX12_law 69 = .ok (.if_icmp .ge 53, 3)) ∧ (decode cX12_law 72 = .ok (.aload_n 0, 1)) := by decide +kernel
theorem dX12_law_57 : decode cX12_law 57 = .ok (.aload_n 0, 1) := dX12_law_57g.1
theorem dX12_law_58 : decode cX12_law 58 = .ok (.getfield 145, 3) := dX12_law_57g.2.1
theorem dX12_law_61 : decode cX12_law 61 = .ok (.iastore, 1) := dX12_law_57g.2.2.1
theorem dX12_law_62 : decode cX12_law 62 = .ok (.iconst 0, 1) := dX12_law_57g.2.2.2.1
theorem dX12_law_63 : decode cX12_law 63 = .ok (.istore_n 2, 1) := dX12_law_57g.2.2.2.2.1
theorem dX12_law_64 : decode cX12_law 64 = .ok (.iload_n 2, 1) := dX12_law_57g.2.2.2.2.2.1
theorem dX12_law_65 : decode cX12_law 65 = .ok (.aload_n 0, 1) := dX12_law_57g.2.2.2.2.2.2.1
theorem dX12_law_66 : decode cX12_law 66 = .ok (.getfield 145, 3) := dX12_law_57g.2.2.2.2.2.2.2.1
theorem dX12_law_69 : decode cX12_law 69 = .ok (.if_icmp .ge 53, 3) := dX12_law_57g.2.2.2.2.2.2.2.2.1
theorem dX12_law_72 : decode cX12_law 72 = .ok (.aload_n 0, 1) := dX12_law_57g.2.2.2.2.2.2.2.2.2
theorem dX12_law_73g : (decode cX12_law 73 = .ok (.getfield 20, 3)) ∧ (decode cX12_law 76 = .ok (.sipush 323, 3)) ∧ (decode cX12_law 79 = .ok (.sipush 400, 3)) ∧ (decode cX12_law 82 = .ok (.iload_n 1, 1)) ∧ (decode cX12_law 83 = .ok (.imul, 1)) ∧ (decode cX12_law 84 = .ok (.iadd, 1)) ∧ (decode cX12_law 85 = .ok (.iload_n 2, 1)) ∧ (decode cX12_law 86 = .ok (.iadd, 1)) ∧ (decode cX12_law 87 = .ok (.aload_n 0, 1)) ∧ (decode cX12_law 88 = .ok (.getfield 43, 3)) := by decide +kernel
theorem dX12_law_73 : decode cX12_law 73 = .ok (.getfield 20, 3) := dX12_law_73g.1
theorem dX12_law_76 : decode cX12_law 76 = .ok (.sipush 323, 3) := dX12_law_73g.2.1
theorem dX12_law_79 : decode cX12_law 79 = .ok (.sipush 400, 3) := dX12_law_73g.2.2.1
theorem dX12_law_82 : decode cX12_law 82 = .ok (.iload_n 1, 1) := dX12_law_73g.2.2.2.1
theorem dX12_law_83 : decode cX12_law 83 = .ok (.imul, 1) := dX12_law_73g.2.2.2.2.1
theorem dX12_law_84 : decode cX12_law 84 = .ok (.iadd, 1) := dX12_law_73g.2.2.2.2.2.1
theorem dX12_law_85 : decode cX12_law 85 = .ok (.iload_n 2, 1) := dX12_law_73g.2.2.2.2.2.2.1
theorem dX12_law_86 : decode cX12_law 86 = .ok (.iadd, 1) := dX12_law_73g.2.2.2.2.2.2.2.1
theorem dX12_law_87 : decode cX12_law 87 = .ok (.aload_n 0, 1) := dX12_law_73g.2.2.2.2.2.2.2.2.1
theorem dX12_law_88 : decode cX12_law 88 = .ok (.getfield 43, 3) := dX12_law_73g.2.2.2.2.2.2.2.2.2
theorem dX12_law_91g : (decode cX12_law 91 = .ok (.iload_n 2, 1)) ∧ (decode cX12_law 92 = .ok (.iaload, 1)) ∧ (decode cX12_law 93 = .ok (.iastore, 1)) ∧ (decode cX12_law 94 = .ok (.aload_n 0, 1)) ∧ (decode cX12_law 95 = .ok (.getfield 20, 3)) ∧ (decode cX12_law 98 = .ok (.sipush 2723, 3)) ∧ (decode cX12_law 101 = .ok (.sipush 400, 3)) ∧ (decode cX12_law 104 = .ok (.iload_n 1, 1)) ∧ (decode cX12_law 105 = .ok (.imul, 1)) ∧ (decode cX12_law 106 = .ok (.iadd, 1)) := by decide +kernel
theorem dX12_law_91 : decode cX12_law 91 = .ok (.iload_n 2, 1) := dX12_law_91g.1
theorem dX12_law_92 : decode cX12_law 92 = .ok (.iaload, 1) := dX12_law_91g.2.1
theorem dX12_law_93 : decode cX12_law 93 = .ok (.iastore, 1) := dX12_law_91g.2.2.1
theorem dX12_law_94 : decode cX12_law 94 = .ok (.aload_n 0, 1) := dX12_law_91g.2.2.2.1
theorem dX12_law_95 : decode cX12_law 95 = .ok (.getfield 20, 3) := dX12_law_91g.2.2.2.2.1
theorem dX12_law_98 : decode cX12_law 98 = .ok (.sipush 2723, 3) := dX12_law_91g.2.2.2.2.2.1
theorem dX12_law_101 : decode cX12_law 101 = .ok (.sipush 400, 3) := dX12_law_91g.2.2.2.2.2.2.1
theorem dX12_law_104 : decode cX12_law 104 = .ok (.iload_n 1, 1) := dX12_law_91g.2.2.2.2.2.2.2.1
theorem dX12_law_105 : decode cX12_law 105 = .ok (.imul, 1) := dX12_law_91g.2.2.2.2.2.2.2.2.1
theorem dX12_law_106 : decode cX12_law 106 = .ok (.iadd, 1) := dX12_law_91g.2.2.2.2.2.2.2.2.2
theorem dX12_law_107g : (decode cX12_law 107 = .ok (.iload_n 2, 1)) ∧ (decode cX12_law 108 = .ok (.iadd, 1)) ∧ (decode cX12_law 109 = .ok (.aload_n 0, 1)) ∧ (decode cX12_law 110 = .ok (.getfield 46, 3)) ∧ (decode cX12_law 113 = .ok (.iload_n 2, 1)) ∧ (decode cX12_law 114 = .ok (.iaload, 1)) ∧ (decode cX12_law 115 = .ok (.iastore, 1)) ∧ (decode cX12_law 116 = .ok (.iinc 2 1, 3)) ∧ (decode cX12_law 119 = .ok (.goto (-55), 3)) ∧ (decode cX12_law 122 = .ok (.aload_n 0, 1)) := by decide +kernel
theorem dX12_law_107 : decode cX12_law 107 = .ok (.iload_n 2, 1) := dX12_law_107g.1
theorem dX12_law_108 : decode cX12_law 108 = .ok (.iadd, 1) := dX12_law_107g.2.1
theorem dX12_law_109 : decode cX12_law 109 = .ok (.aload_n 0, 1) := dX12_law_107g.2.2.1
theorem dX12_law_110 : decode cX12_law 110 = .ok (.getfield 46, 3) := dX12_law_107g.2.2.2.1
theorem dX12_law_113 : decode cX12_law 113 = .ok (.iload_n 2, 1) := dX12_law_107g.2.2.2.2.1
theorem dX12_law_114 : decode cX12_law 114 = .ok (.iaload, 1) := dX12_law_107g.2.2.2.2.2.1
theorem dX12_law_115 : decode cX12_law 115 = .ok (.iastore, 1) := dX12_law_107g.2.2.2.2.2.2.1
theorem dX12_law_116 : decode cX12_law 116 = .ok (.iinc 2 1, 3) := dX12_law_107g.2.2.2.2.2.2.2.1
theorem dX12_law_119 : decode cX12_law 119 = .ok (.goto (-55), 3) := dX12_law_107g.2.2.2.2.2.2.2.2.1
theorem dX12_law_122 : decode cX12_law 122 = .ok (.aload_n 0, 1) := dX12_law_107g.2.2.2.2.2.2.2.2.2
theorem dX12_law_123g : (decode cX12_law 123 = .ok (.getfield 20, 3)) ∧ (decode cX12_law 126 = .ok (.sipush 315, 3)) ∧ (decode cX12_law 129 = .ok (.dup2, 1)) ∧ (decode cX12_law 130 = .ok (.iaload, 1)) ∧ (decode cX12_law 131 = .ok (.iconst 1, 1)) ∧ (decode cX12_law 132 = .ok (.iadd, 1)) ∧ (decode cX12_law 133 = .ok (.iastore, 1)) ∧ (decode cX12_law 134 = .ok (.aload_n 0, 1)) ∧ (decode cX12_law 135 = .ok (.iload_n 1, 1)) ∧ (decode cX12_law 136 = .ok (.invokevirtual 111, 3)) := by decide +kernel
theorem dX12_law_123 : decode cX12_law 123 = .ok (.getfield 20, 3) := dX12_law_123g.1
theorem dX12_law_126 : decode cX12_law 126 = .ok (.sipush 315, 3) := dX12_law_123g.2.1
theorem dX12_law_129 : decode cX12_law 129 = .ok (.dup2, 1) := dX12_law_123g.2.2.1
theorem dX12_law_130 : decode cX12_law 130 = .ok (.iaload, 1) := dX12_law_123g.2.2.2.1
theorem dX12_law_131 : decode cX12_law 131 = .ok (.iconst 1, 1) := dX12_law_123g.2.2.2.2.1
theorem dX12_law_132 : decode cX12_law 132 = .ok (.iadd, 1) := dX12_law_123g.2.2.2.2.2.1
theorem dX12_law_133 : decode cX12_law 133 = .ok (.iastore, 1) := dX12_law_123g.2.2.2.2.2.2.1
theorem dX12_law_134 : decode cX12_law 134 = .ok (.aload_n 0, 1) := dX12_law_123g.2.2.2.2.2.2.2.1
theorem dX12_law_135 : decode cX12_law 135 = .ok (.iload_n 1, 1) := dX12_law_123g.2.2.2.2.2.2.2.2.1
theorem dX12_law_136 : decode cX12_law 136 = .ok (.invokevirtual 111, 3) := dX12_law_123g.2.2.2.2.2.2.2.2.2
theorem dX12_law_139 : decode cX12_law 139 = .ok (.ireturn, 1) := by decide +kernel
set_option maxHeartbeats 4000000 in
set_option maxRecDepth 100000 in
theorem c_X12_law (l : Launch) (Eo : Nat → Nat) (D : va_G) (G : th_G) (h0 : Nat) (hG0 : G h0 = some (10, 0)) (hU1 : UQ G 1) (hU10 : UQ G 10) : Met l yX12_law (tb (.code yX12_law cX12_law 3 (some .int))) (rm 59) (va_Pc [.ref h0] (PX Eo D G (fun H => True))) (QXi (mL Eo 15 16 10 (tB Eo)) D G (fun r H => (r : Int32).toInt = lwR (Eo 10) (lwo (tB Eo) (Eo 15)))) 0 0 (th_A G) := by
  refine Met.ofW (cc := cX12_law) (maxL := 3) (ret := (some .int)) (by decide) rfl ?_
  intro p e s m args below meth c s₁ B hml hv
  obtain ⟨hav, ⟨hI, hN, hK⟩, hX⟩ := hv
  have hx := B.exec
  have hb := B.bytes
  have hr := B.returns
  have hts := atoms_spec (ws := tb (.code yX12_law cX12_law 3 (some .int))) B.pre
  have hown : s.vm.findClass RX12 = some m.cls := findClass_of_methodNamed B.named
  have hlocks := B.notSynchronized
  have hS : va_S (th_A G) s.heap s.heap [] := va_S.rf
  have hl := lv_entry ([.ref h0]) (n := 3) (Nat.le_of_ble_eq_true rfl)
  rw [show entryFrame m args 3 = entryFrame m ([.ref h0] : List Value).toArray 3 from by rw [hav], lg_entry_eq]
  generalize (lg_sl ([.ref h0]) ++ List.replicate (3 - (lg_sl ([.ref h0])).length) Slot.unset).toArray = ls at hl ⊢
  obtain ⟨E, hEe⟩ : ∃ x : Nat → Nat, x = mL Eo 15 16 10 (tB Eo) := ⟨_, rfl⟩
  have hl : lv_has ls 3 [(0, .ref h0)] := hl
  generalize hR : (headSpec (tb (.code yX12_law cX12_law 3 (some .int))) (rm 59)).room = R
  have hR := hR.symm
  generalize hQ : MQ below (QXi (mL Eo 15 16 10 (tB Eo)) D G (fun r H => (r : Int32).toInt = lwR (Eo 10) (lwo (tB Eo) (Eo 15)))) args s 0 0 (th_A G) = QF
  have hQ := hQ.symm
  obtain ⟨Em, hEm⟩ : ∃ x : Nat → Nat, x = eu (eu Eo 15 0) 16 (lwF (lwo (tB Eo) (Eo 15))) := ⟨_, rfl⟩
  have hKm : va_K D vwCl (th_tys Em) s := by rw [hEm, tys_eu (by decide), tys_eu (by decide)]; exact hK
  have hEm10 : Em 10 = Eo 10 := by rw [hEm, eu_ne (by decide)]; exact eu_ne (by decide)
  have J_64 : ∀ (nn : Nat) (H : Heap) (locs : List Loc) (ls : Array Slot) (v891 : Int32) (v892 : Int32) (v893 : Int32) (qr : Nat) (ff : Nat → Int32) (cd : Nat → Int32) (FF : Nat → Int32) (tt : Nat) (TT : Nat) (kk : Nat), (Int.toNat (((TT : Nat) : Int) - ((kk : Nat) : Int)) = nn) → lv_has ls 3 [(2, .int v891), (1, .int v892), (0, .ref h0)] → ((0 : Int) ≤ v891.toInt ∧ v891.toInt ≤ 400) → ((0 : Int) ≤ v892.toInt ∧ v892.toInt ≤ 5) → ((0 : Int) ≤ v893.toInt ∧ v893.toInt ≤ 400) → gf D h0 15 v893 H → ga Em D G h0 12 (8, 401) cd H → (G qr = some (1, 5123)) → (fr D h0 3 qr H) → (va_at D vwCl (qr, .inl (Em 0, 5123, .inl FF)) H) → (kOk (Em 10) ff) → (tt < 6) → (TT ≤ 400) → (∃ n, g_lw (rC cd TT) TT n 0) → ((tt : Int) = v892.toInt) → (v893.toInt = (TT : Int)) → (v891.toInt = (kk : Int)) → (kk ≤ TT) → ((ff 315).toInt ≤ 5) → (LI ff cd FF tt TT kk) → (v892.toInt = ((Eo 10 / 8 : Nat) : Int)) → (Eo 10 < 48) → (∃ f : Int, OUTR (tB Eo) (Eo 15) true f) → th_I (okM Em) D G [qr] H → va_S (th_A G) s.heap H locs → W p l e R s m args below meth c H locs 0 0 QF (F0 m 64 ls []) := by
    intro nn
    induction nn using Nat.strongRecOn with
    | ind nn ih_64 =>
      intro H locs ls v891 v892 v893 qr ff cd FF tt TT kk hm hl k894 k895 k896 hg897 hga_12 hqr hfr hAr hkf ht6 hT hgl htt hTT hkk hkT h315f hLI hx10 hx48 hO9x hI hS
      have hK := hKm
      obtain ⟨a898, hf899, hq900, hA901⟩ := hga_12
      obtain ⟨f9, hO9⟩ := hO9x
      refine lv_iload_n hx hb dX12_law_64 rfl (lv_at hl 0 rfl) ?_
      refine lv_aload_n hx hb dX12_law_65 rfl (lv_at hl 2 rfl) ?_
      refine gmI hx hb hts inT12 hown hK hI (m_nin hG0 hqr (by first | decide | (dsimp only; decide))) hG0 15 (by decide) (hts _ (tb_c wd_1248)) rfl rfl dX12_law_66 (fun w902 hg903 k904 k905 => ?_)
      obtain rfl := gf.uniq (by decide) hg897 hg903
      refine lv_icmp_ge (tgt := 122) hx hb dX12_law_69 (by decide) (fun c906 => ?_) (fun c906 => ?_)
      · skip
        have k907 := iv_le (X := v893.toInt) (Y := v891.toInt) rfl rfl c906
        obtain rfl : kk = TT := by omega
        have hPn := LI.done hLI hkf ht6 hT hgl
        have hI := th_I.close hI hqr hAr (ok_m1 hPn)
        have h315 : FF 315 = ff 315 := hLI.1 315 (by omega) (by omega) (by omega)
        refine lv_aload_n hx hb dX12_law_122 rfl (lv_at hl 2 rfl) ?_
        refine gmA hx hb hts inT12 hown hK hI List.not_mem_nil hG0 3 (by decide) (hts _ (tb_c wd_1236)) rfl rfl dX12_law_123 (fun a908 hq909 hf910 => ?_)
        obtain rfl := fr.uniq (by decide) hfr hf910
        refine lv_sipush (v := 315) hx hb dX12_law_126 (by decide) ?_
        refine lv_dup2_11 hx hb dX12_law_129 rfl rfl ?_
        refine th_iald hx hb hK hAr 0 rfl (iv_in (X := (315)) (by decide) (by omega) (by omega)) dX12_law_130 (fun v911 e912 => ?_)
        have k913 := kg_t315 (kOk.get (i := 315) hPn e912 (X := (315)) (by decide) (by omega) (by omega)) (by omega) (by omega) (by omega)
        have k914 : v911.toInt ≤ 5 := by rw [e912]; show (FF 315).toInt ≤ 5; rw [h315]; omega
        refine lv_iconst (v := 1) hx hb dX12_law_131 (by decide) ?_
        refine lv_iadd hx hb dX12_law_132 ?_
        refine lv_topi (fun v915 e916 => ?_)
        have tv915 : v915.toInt = v911.toInt + (1) := iv_add rfl (by decide) e916 (by omega) (by omega)
        refine th_iast hx hb hK hAr 0 rfl hS ⟨_, hqr⟩ (iv_in (X := (315)) (by decide) (by omega) (by omega)) dX12_law_133 (fun H locs hA917 oq hS => ?_)
        have hPt := kOk.set6 (i := 315) (v := v915) (c' := (8 * (v915.toInt).toNat + Em 10 % 8)) hPn (X := (315)) (by decide) (by omega) (by omega) ⟨by omega, by omega, by omega⟩ (by omega)
        have hEq : eu Em 10 (8 * (v915.toInt).toNat + Em 10 % 8) = E := by rw [hEe, mL_yes (by omega) hO9, show (8 * (v915.toInt).toNat + Em 10 % 8) = Eo 10 + 8 by omega, hEm, lwo_eq hO9]; rfl
        have hI : th_I (okM E) D G [] H := by rw [← hEq]; exact em_put hI hqr hU1 (fun _ _ _ => okM_e10 rfl) hA917 (ok_m1T hPt) oq
        have hK : va_K D vwCl (th_tys E) s := by rw [← hEq, tys_eu (by decide)]; exact hK
        have hg897 := gf.arr hG0 hqr (by decide) oq hg897
        have hf899 := fr.arr hG0 hqr (by decide) oq hf899
        have hfr := fr.arr hG0 hqr (by decide) oq hfr
        refine lv_aload_n hx hb dX12_law_134 rfl (lv_at hl 2 rfl) ?_
        refine lv_iload_n hx hb dX12_law_135 rfl (lv_at hl 1 rfl) ?_
        refine mx_i (As := [.int v892]) (rest := []) (n := 1) (d := 0) ⟨hx, hb, hml, hown, hts⟩ (c_X12_good l E D G h0 hG0 v892) wd_1402 wd_1404 wp_41 wd_13 wd_1405 (by decide +kernel) ⟨by rw [hR]; exact Nat.le_of_ble_eq_true rfl, by rw [hR]; exact Nat.le_of_ble_eq_true rfl⟩ hI hN hK hS hG0 (trivial) rfl hl.1 rfl (Nat.le_of_ble_eq_true rfl) dX12_law_136 ⟨Nat.zero_le _, Nat.zero_le _⟩ (fun r918 H locs hI hp hS => ?_)
        obtain rfl := hp.symm
        have hpost : (v892 : Int32).toInt = lwR (Eo 10) (lwo (tB Eo) (Eo 15)) := by rw [lwR_yes (by omega) hO9]; omega
        subst hEe
        rw [hQ]
        exact W.iret (v := v892) hx hb hr (fun t ht hW => ⟨⟨v892, v892, rfl, rfl, ⟨by rw [ht]; exact hI, hN.warm hW, va_K.moved hW.alike hK⟩, by first | (rw [ht]; exact hpost) | exact hpost⟩, hS.F ht⟩) hS.2.2 dX12_law_139
      · skip
        have k919 := iv_nle (X := v893.toInt) (Y := v891.toInt) rfl rfl c906
        refine lv_aload_n hx hb dX12_law_72 rfl (lv_at hl 2 rfl) ?_
        refine gmA hx hb hts inT12 hown hK hI (m_nin hG0 hqr (by first | decide | (dsimp only; decide))) hG0 3 (by decide) (hts _ (tb_c wd_1236)) rfl rfl dX12_law_73 (fun a920 hq921 hf922 => ?_)
        obtain rfl := fr.uniq (by decide) hfr hf922
        refine lv_sipush (v := 323) hx hb dX12_law_76 (by decide) ?_
        refine lv_sipush (v := 400) hx hb dX12_law_79 (by decide) ?_
        refine lv_iload_n hx hb dX12_law_82 rfl (lv_at hl 1 rfl) ?_
        refine lv_imul hx hb dX12_law_83 ?_
        refine lv_topi (fun v923 e924 => ?_)
        have tv923 : v923.toInt = (400) * v892.toInt := iv_mul (by decide) rfl e924 (by omega) (by omega)
        refine lv_iadd hx hb dX12_law_84 ?_
        refine lv_topi (fun v925 e926 => ?_)
        have tv925 : v925.toInt = (323) + v923.toInt := iv_add (by decide) rfl e926 (by omega) (by omega)
        refine lv_iload_n hx hb dX12_law_85 rfl (lv_at hl 0 rfl) ?_
        refine lv_iadd hx hb dX12_law_86 ?_
        refine lv_topi (fun v927 e928 => ?_)
        have tv927 : v927.toInt = v925.toInt + v891.toInt := iv_add rfl rfl e928 (by omega) (by omega)
        refine lv_aload_n hx hb dX12_law_87 rfl (lv_at hl 2 rfl) ?_
        refine gmA hx hb hts inT12 hown hK hI (m_nin hG0 hqr (by first | decide | (dsimp only; decide))) hG0 12 (by decide) (hts _ (tb_c wd_1245)) rfl rfl dX12_law_88 (fun a929 hq930 hf931 => ?_)
        obtain rfl := fr.uniq (by decide) hf899 hf931
        refine lv_iload_n hx hb dX12_law_91 rfl (lv_at hl 0 rfl) ?_
        refine th_iald hx hb hK hA901 0 rfl (iv_in (X := v891.toInt) rfl (by omega) (by omega)) dX12_law_92 (fun v932 e933 => ?_)
        refine th_iast hx hb hK hAr 0 rfl hS ⟨_, hqr⟩ (iv_in (X := v927.toInt) rfl (by omega) (by omega)) dX12_law_93 (fun H locs hA934 oq hS => ?_)
        have hI := th_I.moved hI oq
        have hg897 := gf.arr hG0 hqr (by decide) oq hg897
        have hf899 := fr.arr hG0 hqr (by decide) oq hf899
        have hfr := fr.arr hG0 hqr (by decide) oq hfr
        have hA901 := va_at.kept hA901 (oq _ (m_ne hq900 hqr (by first | decide | (dsimp only; decide))))
        have e935 : v932 = (upd FF (v927 : Int32).toNatClampNeg v932) (v927 : Int32).toNatClampNeg := rd_us
        refine lv_aload_n hx hb dX12_law_94 rfl (lv_at hl 2 rfl) ?_
        refine gmA hx hb hts inT12 hown hK hI (m_nin hG0 hqr (by first | decide | (dsimp only; decide))) hG0 3 (by decide) (hts _ (tb_c wd_1236)) rfl rfl dX12_law_95 (fun a936 hq937 hf938 => ?_)
        obtain rfl := fr.uniq (by decide) hfr hf938
        refine lv_sipush (v := 2723) hx hb dX12_law_98 (by decide) ?_
        refine lv_sipush (v := 400) hx hb dX12_law_101 (by decide) ?_
        refine lv_iload_n hx hb dX12_law_104 rfl (lv_at hl 1 rfl) ?_
        refine lv_imul hx hb dX12_law_105 ?_
        refine lv_topi (fun v939 e940 => ?_)
        have tv939 : v939.toInt = (400) * v892.toInt := iv_mul (by decide) rfl e940 (by omega) (by omega)
        refine lv_iadd hx hb dX12_law_106 ?_
        refine lv_topi (fun v941 e942 => ?_)
        have tv941 : v941.toInt = (2723) + v939.toInt := iv_add (by decide) rfl e942 (by omega) (by omega)
        refine lv_iload_n hx hb dX12_law_107 rfl (lv_at hl 0 rfl) ?_
        refine lv_iadd hx hb dX12_law_108 ?_
        refine lv_topi (fun v943 e944 => ?_)
        have tv943 : v943.toInt = v941.toInt + v891.toInt := iv_add rfl rfl e944 (by omega) (by omega)
        refine lv_aload_n hx hb dX12_law_109 rfl (lv_at hl 2 rfl) ?_
        refine gmA hx hb hts inT12 hown hK hI (m_nin hG0 hqr (by first | decide | (dsimp only; decide))) hG0 13 (by decide) (hts _ (tb_c wd_1246)) rfl rfl dX12_law_110 (fun a945 hq946 hf947 => ?_)
        refine lv_iload_n hx hb dX12_law_113 rfl (lv_at hl 0 rfl) ?_
        obtain ⟨F948, hA949⟩ := om_0 hI hq946 (m_nin hq946 hqr (by first | decide | (dsimp only; decide)))
        refine th_iald hx hb hK hA949 0 rfl (iv_in (X := v891.toInt) rfl (by omega) (by omega)) dX12_law_114 (fun v950 e951 => ?_)
        refine th_iast hx hb hK hA934 0 rfl hS ⟨_, hqr⟩ (iv_in (X := v943.toInt) rfl (by omega) (by omega)) dX12_law_115 (fun H locs hA952 oq hS => ?_)
        have hI := th_I.moved hI oq
        have hg897 := gf.arr hG0 hqr (by decide) oq hg897
        have hf899 := fr.arr hG0 hqr (by decide) oq hf899
        have hfr := fr.arr hG0 hqr (by decide) oq hfr
        have hf947 := fr.arr hG0 hqr (by decide) oq hf947
        have hA901 := va_at.kept hA901 (oq _ (m_ne hq900 hqr (by first | decide | (dsimp only; decide))))
        have hA949 := va_at.kept hA949 (oq _ (m_ne hq946 hqr (by first | decide | (dsimp only; decide))))
        have e953 := rd_un (i := v927) (j := v943) (v := v950) e935 (X := v927.toInt) (Y := v943.toInt) rfl rfl (by omega) (by omega) (by omega)
        have e954 : v950 = (upd (upd FF (v927 : Int32).toNatClampNeg v932) (v943 : Int32).toNatClampNeg v950) (v943 : Int32).toNatClampNeg := rd_us
        obtain ⟨v955, e956⟩ : ∃ y : Int32, y = v891 + (1) := ⟨_, rfl⟩
        have tv955 : v955.toInt = v891.toInt + (1) := iv_add rfl (by decide) e956 (by omega) (by omega)
        refine lv_iinc (v := v955) (lv' := [(2, .int v955), (1, .int v892), (0, .ref h0)]) hx hb dX12_law_116 hl (k := 0) rfl (by rw [e956]; rfl) (by decide) rfl (fun ls hl => ?_)
        refine lv_goto (tgt := 64) hx hb dX12_law_119 (by decide) ?_
        exact ih_64 _ (by omega) H locs ls v955 v892 v893 qr ff cd (upd (upd FF (v927 : Int32).toNatClampNeg v932) (v943 : Int32).toNatClampNeg v950) tt TT (kk + 1) rfl (lv_sub hl [0, 1, 2] rfl) ⟨by omega, by omega⟩ ⟨by omega, by omega⟩ ⟨by omega, by omega⟩ hg897 ⟨a898, hf899, hq900, hA901⟩ (hqr) (hfr) (hA952) (hkf) (ht6) (hT) (hgl) (by omega) (by omega) (by first | omega | decide) (by omega) (h315f) (LI.step (k := v891) hLI ht6 (by omega) (by omega) (by omega) e933 (by omega)) (by omega) (by omega) (⟨f9, hO9⟩) hI hS
  refine lv_aload_n hx hb dX12_law_0 rfl (lv_at hl 0 rfl) ?_
  refine gmA hx hb hts inT12 hown hK hI List.not_mem_nil hG0 3 (by decide) (hts _ (tb_c wd_1236)) rfl rfl dX12_law_1 (fun a957 hq958 hf959 => ?_)
  refine lv_sipush (v := 315) hx hb dX12_law_4 (by decide) ?_
  obtain ⟨F960, hA961, hP962⟩ := om_1 hI hq958 List.not_mem_nil
  refine th_iald hx hb hK hA961 0 rfl (iv_in (X := (315)) (by decide) (by omega) (by omega)) dX12_law_7 (fun v963 e964 => ?_)
  have k965 := kg_t315 (kOk.get (i := 315) hP962 e964 (X := (315)) (by decide) (by omega) (by omega)) (by omega) (by omega) (by omega)
  refine lv_bipush (v := 6) hx hb dX12_law_8 (by decide) ?_
  refine lv_icmp_ne (tgt := 25) hx hb dX12_law_10 (by decide) (fun c966 => ?_) (fun c966 => ?_)
  · skip
    have k967 := iv_ne (X := v963.toInt) (Y := (6)) rfl (by decide) c966
    refine lv_aload_n hx hb dX12_law_25 rfl (lv_at hl 0 rfl) ?_
    refine mx_iE (As := []) (rest := []) (n := 0) (d := 58) ⟨hx, hb, hml, hown, hts⟩ (c_X12_reads l Eo D G h0 hG0  F960 hP962 hU10) wd_1564 wd_1566 wp_62 wd_13 wd_1567 (by decide +kernel) ⟨by rw [hR]; exact Nat.le_of_ble_eq_true rfl, by rw [hR]; exact Nat.le_of_ble_eq_true rfl⟩ hI hN hK (by rw [tys_eu (by decide), tys_eu (by decide)]; exact hK) hS hG0 (⟨a957, hf959, hq958, hA961⟩) rfl hl.1 rfl (Nat.le_of_ble_eq_true rfl) dX12_law_26 ⟨Nat.zero_le _, Nat.zero_le _⟩ (fun r968 H locs Eu969 hEu969 hI hK hp hS => ?_)
    have hEq : Eu969 = Em := hEu969.trans hEm.symm
    rw [hEq] at hI hK
    rcases hp with ⟨rfl, hp⟩ | ⟨rfl, hp⟩
    · skip
      try simp only [rg, not_and, Int.not_le] at hp
      have hp970 := hp
      obtain ⟨f9, hO9, cd, TT, hT, ⟨a971, hf972, hq973, hA974⟩, ⟨a975, hf976, hq977, hA978⟩, ⟨w979, hg980, k981⟩, hgl⟩ := hp970
      have hp970 : True := trivial
      have hA974 : va_at D vwCl (a971, .inl (Em 0, 5123, .inl F960)) H := by rw [show Em 0 = Eo 0 from (by rw [hEm, eu_ne (by decide)]; exact eu_ne (by decide))]; exact hA974
      have hP962 : kOk (Em 10) F960 := by rw [show Em 10 = Eo 10 from (by rw [hEm, eu_ne (by decide)]; exact eu_ne (by decide))]; exact hP962
      have hA978 : va_at D vwCl (a975, .inl (Em 0, 401, .inl cd)) H := by rw [show Em 0 = Eo 0 from (by rw [hEm, eu_ne (by decide)]; exact eu_ne (by decide))]; exact hA978
      refine lv_if_ne (tgt := 39) hx hb dX12_law_29 (by decide) (fun _ => ?_) (fun c => absurd c (by decide))
      refine lv_aload_n hx hb dX12_law_39 rfl (lv_at hl 0 rfl) ?_
      refine gmA hx hb hts inT12 hown hK hI List.not_mem_nil hG0 3 (by decide) (hts _ (tb_c wd_1236)) rfl rfl dX12_law_40 (fun a982 hq983 hf984 => ?_)
      obtain rfl := fr.uniq (by decide) hf972 hf984
      refine lv_sipush (v := 315) hx hb dX12_law_43 (by decide) ?_
      refine th_iald hx hb hK hA974 0 rfl (iv_in (X := (315)) (by decide) (by omega) (by omega)) dX12_law_46 (fun v985 e986 => ?_)
      obtain rfl := (rd_same (i := 315) (j := 315) e964 e986 (X := (315)) (Y := (315)) (by decide) (by decide) (by omega)).symm
      refine lv_istore_n (lv' := [(1, .int v963), (0, .ref h0)]) hx hb dX12_law_47 rfl hl (by decide) rfl (fun ls hl => ?_)
      have hI := th_I.weak (a := a971) hI
      obtain ⟨tt, htt⟩ : ∃ t : Nat, (t : Int) = v963.toInt := ⟨v963.toInt.toNat, by omega⟩
      have ht6 : tt < 6 := by omega
      refine lv_aload_n hx hb dX12_law_48 rfl (lv_at hl 1 rfl) ?_
      refine gmA hx hb hts inT12 hown hK hI (m_nin hG0 hq973 (by first | decide | (dsimp only; decide))) hG0 3 (by decide) (hts _ (tb_c wd_1236)) rfl rfl dX12_law_49 (fun a987 hq988 hf989 => ?_)
      obtain rfl := fr.uniq (by decide) hf972 hf989
      refine lv_sipush (v := 317) hx hb dX12_law_52 (by decide) ?_
      refine lv_iload_n hx hb dX12_law_55 rfl (lv_at hl 0 rfl) ?_
      refine lv_iadd hx hb dX12_law_56 ?_
      refine lv_topi (fun v990 e991 => ?_)
      have tv990 : v990.toInt = (317) + v963.toInt := iv_add (by decide) rfl e991 (by omega) (by omega)
      refine lv_aload_n hx hb dX12_law_57 rfl (lv_at hl 1 rfl) ?_
      refine gmI hx hb hts inT12 hown hK hI (m_nin hG0 hq973 (by first | decide | (dsimp only; decide))) hG0 15 (by decide) (hts _ (tb_c wd_1248)) rfl rfl dX12_law_58 (fun w992 hg993 k994 k995 => ?_)
      obtain rfl := gf.uniq (by decide) hg980 hg993
      refine th_iast hx hb hK hA974 0 rfl hS ⟨_, hq973⟩ (iv_in (X := v990.toInt) rfl (by omega) (by omega)) dX12_law_61 (fun H locs hA996 oq hS => ?_)
      have hI := th_I.moved hI oq
      have hg980 := gf.arr hG0 hq973 (by decide) oq hg980
      have hf972 := fr.arr hG0 hq973 (by decide) oq hf972
      have hf976 := fr.arr hG0 hq973 (by decide) oq hf976
      have hA978 := va_at.kept hA978 (oq _ (m_ne hq977 hq973 (by first | decide | (dsimp only; decide))))
      have e997 := rd_un (i := 315) (j := v990) (v := w979) e964 (X := (315)) (Y := v990.toInt) (by decide) rfl (by omega) (by omega) (by omega)
      have e998 : w979 = (upd F960 (v990 : Int32).toNatClampNeg w979) (v990 : Int32).toNatClampNeg := rd_us
      refine lv_iconst (v := 0) hx hb dX12_law_62 (by decide) ?_
      refine lv_istore_n (lv' := [(2, .int 0), (1, .int v963), (0, .ref h0)]) hx hb dX12_law_63 rfl hl (by decide) rfl (fun ls hl => ?_)
      have zl : (0 : Int32).toInt = 0 := by decide
      exact J_64 _ H locs ls 0 v963 w979 a971 F960 cd (upd F960 (v990 : Int32).toNatClampNeg w979) tt TT 0 rfl (lv_sub hl [0, 1, 2] rfl) ⟨by decide, by decide⟩ ⟨by omega, by omega⟩ ⟨by omega, by omega⟩ hg980 ⟨a975, hf976, hq977, hA978⟩ (hq973) (hf972) (hA996) (hP962) (ht6) (hT) (hgl) (by omega) (by omega) (by first | omega | decide) (by omega) (by rw [show F960 315 = v963 from (e964).symm]; omega) (LI.init (i := v990) (by omega) (by omega)) (by omega) (by omega) (⟨f9, hO9⟩) hI hS
    · skip
      try simp only [rg, not_and, Int.not_le] at hp
      have hp999 := hp
      obtain ⟨f9, hO9, a1000, hf1001, hq1002, hA1003⟩ := hp999
      have hp999 : True := trivial
      have hA1003 : va_at D vwCl (a1000, .inl (Em 0, 5123, .inl F960)) H := by rw [show Em 0 = Eo 0 from (by rw [hEm, eu_ne (by decide)]; exact eu_ne (by decide))]; exact hA1003
      have hP962 : kOk (Em 10) F960 := by rw [show Em 10 = Eo 10 from (by rw [hEm, eu_ne (by decide)]; exact eu_ne (by decide))]; exact hP962
      refine lv_if_ne (tgt := 39) hx hb dX12_law_29 (by decide) (fun c => absurd c (by decide)) (fun _ => ?_)
      refine lv_aload_n hx hb dX12_law_32 rfl (lv_at hl 0 rfl) ?_
      refine lv_bipush (v := (-6)) hx hb dX12_law_33 (by decide) ?_
      refine mx_i (As := [.int (-6)]) (rest := []) (n := 1) (d := 0) ⟨hx, hb, hml, hown, hts⟩ (c_X12_refuses l Em D G h0 hG0 (-6) ⟨by decide, by decide⟩) wd_1398 wd_1400 wp_40 wd_13 wd_1401 (by decide +kernel) ⟨by rw [hR]; exact Nat.le_of_ble_eq_true rfl, by rw [hR]; exact Nat.le_of_ble_eq_true rfl⟩ hI hN hK hS hG0 (trivial) rfl hl.1 rfl (Nat.le_of_ble_eq_true rfl) dX12_law_35 ⟨Nat.zero_le _, Nat.zero_le _⟩ (fun r1010 H locs hI hp hS => ?_)
      obtain rfl := hp.symm
      have hEq : Em = E := by rw [hEe, mL_no (by omega) hO9 (by decide) (by decide), hEm, lwo_eq hO9]; rfl
      rw [hEq] at hI hK
      have hpost : ((-6) : Int32).toInt = lwR (Eo 10) (lwo (tB Eo) (Eo 15)) := by rw [lwR_no (by omega) hO9]; decide
      subst hEe
      rw [hQ]
      exact W.iret (v := (-6)) hx hb hr (fun t ht hW => ⟨⟨(-6), (-6), rfl, rfl, ⟨by rw [ht]; exact hI, hN.warm hW, va_K.moved hW.alike hK⟩, by first | (rw [ht]; exact hpost) | exact hpost⟩, hS.F ht⟩) hS.2.2 dX12_law_38
  · skip
    have k1011 := iv_eq (X := v963.toInt) (Y := (6)) rfl (by decide) c966
    refine lv_aload_n hx hb dX12_law_13 rfl (lv_at hl 0 rfl) ?_
    refine lv_iconst (v := 0) hx hb dX12_law_14 (by decide) ?_
    refine pmE (E' := eu Eo 15 0) (ty := .int) hx hb hts inT12 hown hK hI List.not_mem_nil hG0 hS ⟨_, hG0⟩ 10 (by decide) (hts _ (tb_c wd_1243)) rfl rfl hU10 (okM_g15 (by decide)) (fun fs a b => c10_15 a b (by decide)) (by decide +kernel) rfl rfl rfl (by decide) (by decide) dX12_law_15 (fun H locs hI hgP hS => ?_)
    have hg1012 := hgP.2.1
    have hf959 := hgP.2.2.2 3 _ (by decide) (by decide) hf959
    have hA961 := va_at.kept hA961 (hgP.1 _ (m_ne hq958 hG0 (by first | decide | (dsimp only; decide))))
    have hEq : eu Eo 15 0 = E := (hEe.trans (mL_full (by omega) (by decide) (by decide) (by decide))).symm
    have hI : th_I (okM E) D G [] H := by rw [← hEq]; exact hI
    have hK : va_K D vwCl (th_tys E) s := by rw [← hEq, tys_eu (by decide)]; exact hK
    refine lv_aload_n hx hb dX12_law_18 rfl (lv_at hl 0 rfl) ?_
    refine lv_bipush (v := (-5)) hx hb dX12_law_19 (by decide) ?_
    refine mx_i (As := [.int (-5)]) (rest := []) (n := 1) (d := 0) ⟨hx, hb, hml, hown, hts⟩ (c_X12_refuses l E D G h0 hG0 (-5) ⟨by decide, by decide⟩) wd_1398 wd_1400 wp_40 wd_13 wd_1401 (by decide +kernel) ⟨by rw [hR]; exact Nat.le_of_ble_eq_true rfl, by rw [hR]; exact Nat.le_of_ble_eq_true rfl⟩ hI hN hK hS hG0 (trivial) rfl hl.1 rfl (Nat.le_of_ble_eq_true rfl) dX12_law_21 ⟨Nat.zero_le _, Nat.zero_le _⟩ (fun r1013 H locs hI hp hS => ?_)
    obtain rfl := hp.symm
    have hpost : ((-5) : Int32).toInt = lwR (Eo 10) (lwo (tB Eo) (Eo 15)) := by rw [lwR_full (by omega)]; decide
    subst hEe
    rw [hQ]
    exact W.iret (v := (-5)) hx hb hr (fun t ht hW => ⟨⟨(-5), (-5), rfl, rfl, ⟨by rw [ht]; exact hI, hN.warm hW, va_K.moved hW.alike hK⟩, by first | (rw [ht]; exact hpost) | exact hpost⟩, hS.F ht⟩) hS.2.2 dX12_law_24
