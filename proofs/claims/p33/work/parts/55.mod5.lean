theorem wp_86 : Cond.selects RX12 yX12_seenOf yX12_seenOf ∈ TB := tv 86 (by decide +kernel) (by decide +kernel)
theorem wp_87 : Cond.selects RX12 yX12_seenBy yX12_seenBy ∈ TB := tv 87 (by decide +kernel) (by decide +kernel)
theorem wp_90 : Cond.selects RX12 yX12_firstAt yX12_firstAt ∈ TB := tv 90 (by decide +kernel) (by decide +kernel)
theorem wp_91 : Cond.selects RX12 yX12_grants yX12_grants ∈ TB := tv 91 (by decide +kernel) (by decide +kernel)
theorem wp_93 : Cond.selects RX12 yX12_laysFlows yX12_laysFlows ∈ TB := tv 93 (by decide +kernel) (by decide +kernel)
theorem wd_1267 : (Cond.fieldLink RX12 (73 : Nat) "NineRiverModel" "sorts" "[I") ∈ TB := tw 1267 (by decide +kernel) (by decide +kernel)
theorem wd_1275 : (Cond.fieldLink RX12 (91 : Nat) "NineRiverModel" "answers" "[I") ∈ TB := tw 1275 (by decide +kernel) (by decide +kernel)
theorem wd_1277 : (Cond.fieldLink RX12 (380 : Nat) "NineRiverModel" "bestMany" "I") ∈ TB := tw 1277 (by decide +kernel) (by decide +kernel)
theorem wd_1278 : (Cond.fieldLink RX12 (389 : Nat) "NineRiverModel" "bestClock" "I") ∈ TB := tw 1278 (by decide +kernel) (by decide +kernel)
theorem wd_1279 : (Cond.fieldLink RX12 (392 : Nat) "NineRiverModel" "bestLong" "I") ∈ TB := tw 1279 (by decide +kernel) (by decide +kernel)
theorem wd_1280 : (Cond.fieldLink RX12 (97 : Nat) "NineRiverModel" "bestBy" "I") ∈ TB := tw 1280 (by decide +kernel) (by decide +kernel)
theorem wd_1281 : (Cond.fieldLink RX12 (377 : Nat) "NineRiverModel" "bestPump" "I") ∈ TB := tw 1281 (by decide +kernel) (by decide +kernel)
theorem wd_1582 : (Cond.constant RX12 (158 : Nat) (1000000 : Int32)) ∈ TB := tw 1582 (by decide +kernel) (by decide +kernel)
theorem wd_1761 : (Cond.methodLink RX12 (348 : Nat) yX12_seenOf) ∈ TB := tw 1761 (by decide +kernel) (by decide +kernel)
theorem wd_1763 : (Jvm.Cond.instanceMethod yX12_seenOf) ∈ TB := tw 1763 (by decide +kernel) (by decide +kernel)
theorem wd_1764 : (Cond.code yX12_seenOf cX12_seenOf 4 (Option.some Jvm.ClassFile.FieldType.int)) ∈ TB := tw 1764 (by decide +kernel) (by decide +kernel)
theorem wd_1765 : (Cond.methodLink RX12 (351 : Nat) yX12_seenBy) ∈ TB := tw 1765 (by decide +kernel) (by decide +kernel)
theorem wd_1767 : (Jvm.Cond.instanceMethod yX12_seenBy) ∈ TB := tw 1767 (by decide +kernel) (by decide +kernel)
theorem wd_1768 : (Cond.code yX12_seenBy cX12_seenBy 8 (Option.some Jvm.ClassFile.FieldType.int)) ∈ TB := tw 1768 (by decide +kernel) (by decide +kernel)
theorem wd_1800 : (Cond.methodLink RX12 (370 : Nat) yX12_firstAt) ∈ TB := tw 1800 (by decide +kernel) (by decide +kernel)
theorem wd_1802 : (Jvm.Cond.instanceMethod yX12_firstAt) ∈ TB := tw 1802 (by decide +kernel) (by decide +kernel)
theorem wd_1803 : (Cond.code yX12_firstAt cX12_firstAt 4 (Option.some Jvm.ClassFile.FieldType.int)) ∈ TB := tw 1803 (by decide +kernel) (by decide +kernel)
theorem wd_1824 : (Cond.methodLink RX12 (373 : Nat) yX12_grants) ∈ TB := tw 1824 (by decide +kernel) (by decide +kernel)
theorem wd_1826 : (Jvm.Cond.instanceMethod yX12_grants) ∈ TB := tw 1826 (by decide +kernel) (by decide +kernel)
theorem wd_1827 : (Cond.code yX12_grants cX12_grants 3 (Option.some Jvm.ClassFile.FieldType.int)) ∈ TB := tw 1827 (by decide +kernel) (by decide +kernel)
theorem wd_1836 : (Cond.methodLink RX12 (383 : Nat) yX12_laysFlows) ∈ TB := tw 1836 (by decide +kernel) (by decide +kernel)
theorem wd_1838 : (Jvm.Cond.instanceMethod yX12_laysFlows) ∈ TB := tw 1838 (by decide +kernel) (by decide +kernel)
theorem wd_1839 : (Cond.code yX12_laysFlows cX12_laysFlows 2 (Option.none : Option Jvm.ClassFile.FieldType)) ∈ TB := tw 1839 (by decide +kernel) (by decide +kernel)
theorem wd_1840 : (Cond.methodLink RX12 (386 : Nat) yX12_ones) ∈ TB := tw 1840 (by decide +kernel) (by decide +kernel)
theorem wd_1841 : (Jvm.Cond.static yX12_ones) ∈ TB := tw 1841 (by decide +kernel) (by decide +kernel)
theorem wd_1842 : (Cond.code yX12_ones cX12_ones 3 (Option.some Jvm.ClassFile.FieldType.int)) ∈ TB := tw 1842 (by decide +kernel) (by decide +kernel)
theorem dX12_seenOf_0g : (decode cX12_seenOf 0 = .ok (.iconst 0, 1)) ∧ (decode cX12_seenOf 1 = .ok (.istore_n 2, 1)) ∧ (decode cX12_seenOf 2 = .ok (.iconst 0, 1)) ∧ (decode cX12_seenOf 3 = .ok (.istore_n 3, 1)) ∧ (decode cX12_seenOf 4 = .ok (.iload_n 3, 1)) ∧ (decode cX12_seenOf 5 = .ok (.aload_n 0, 1)) ∧ (decode cX12_seenOf 6 = .ok (.getfield 20, 3)) ∧ (decode cX12_seenOf 9 = .ok (.sipush 312, 3)) ∧ (decode cX12_seenOf 12 = .ok (.iaload, 1)) ∧ (decode cX12_seenOf 13 = .ok (.if_icmp .ge 55, 3)) := by decide +kernel
theorem dX12_seenOf_0 : decode cX12_seenOf 0 = .ok (.iconst 0, 1) := dX12_seenOf_0g.1
theorem dX12_seenOf_1 : decode cX12_seenOf 1 = .ok (.istore_n 2, 1) := dX12_seenOf_0g.2.1
theorem dX12_seenOf_2 : decode cX12_seenOf 2 = .ok (.iconst 0, 1) := dX12_seenOf_0g.2.2.1
theorem dX12_seenOf_3 : decode cX12_seenOf 3 = .ok (.istore_n 3, 1) := dX12_seenOf_0g.2.2.2.1
theorem dX12_seenOf_4 : decode cX12_seenOf 4 = .ok (.iload_n 3, 1) := dX12_seenOf_0g.2.2.2.2.1
theorem dX12_seenOf_5 : decode cX12_seenOf 5 = .ok (.aload_n 0, 1) := dX12_seenOf_0g.2.2.2.2.2.1
theorem dX12_seenOf_6 : decode cX12_seenOf 6 = .ok (.getfield 20, 3) := dX12_seenOf_0g.2.2.2.2.2.2.1
theorem dX12_seenOf_9 : decode cX12_seenOf 9 = .ok (.sipush 312, 3) := dX12_seenOf_0g.2.2.2.2.2.2.2.1
theorem dX12_seenOf_12 : decode cX12_seenOf 12 = .ok (.iaload, 1) := dX12_seenOf_0g.2.2.2.2.2.2.2.2.1
theorem dX12_seenOf_13 : decode cX12_seenOf 13 = .ok (.if_icmp .ge 55, 3) := dX12_seenOf_0g.2.2.2.2.2.2.2.2.2
theorem dX12_seenOf_16g : (decode cX12_seenOf 16 = .ok (.iload_n 2, 1)) ∧ (decode cX12_seenOf 17 = .ok (.aload_n 0, 1)) ∧ (decode cX12_seenOf 18 = .ok (.getfield 20, 3)) ∧ (decode cX12_seenOf 21 = .ok (.sipush 224, 3)) ∧ (decode cX12_seenOf 24 = .ok (.iconst 4, 1)) ∧ (decode cX12_seenOf 25 = .ok (.iload_n 3, 1)) ∧ (decode cX12_seenOf 26 = .ok (.imul, 1)) ∧ (decode cX12_seenOf 27 = .ok (.iadd, 1)) ∧ (decode cX12_seenOf 28 = .ok (.iconst 2, 1)) ∧ (decode cX12_seenOf 29 = .ok (.iadd, 1)) := by decide +kernel
theorem dX12_seenOf_16 : decode cX12_seenOf 16 = .ok (.iload_n 2, 1) := dX12_seenOf_16g.1
theorem dX12_seenOf_17 : decode cX12_seenOf 17 = .ok (.aload_n 0, 1) := dX12_seenOf_16g.2.1
theorem dX12_seenOf_18 : decode cX12_seenOf 18 = .ok (.getfield 20, 3) := dX12_seenOf_16g.2.2.1
theorem dX12_seenOf_21 : decode cX12_seenOf 21 = .ok (.sipush 224, 3) := dX12_seenOf_16g.2.2.2.1
theorem dX12_seenOf_24 : decode cX12_seenOf 24 = .ok (.iconst 4, 1) := dX12_seenOf_16g.2.2.2.2.1
theorem dX12_seenOf_25 : decode cX12_seenOf 25 = .ok (.iload_n 3, 1) := dX12_seenOf_16g.2.2.2.2.2.1
theorem dX12_seenOf_26 : decode cX12_seenOf 26 = .ok (.imul, 1) := dX12_seenOf_16g.2.2.2.2.2.2.1
theorem dX12_seenOf_27 : decode cX12_seenOf 27 = .ok (.iadd, 1) := dX12_seenOf_16g.2.2.2.2.2.2.2.1
theorem dX12_seenOf_28 : decode cX12_seenOf 28 = .ok (.iconst 2, 1) := dX12_seenOf_16g.2.2.2.2.2.2.2.2.1
theorem dX12_seenOf_29 : decode cX12_seenOf 29 = .ok (.iadd, 1) := dX12_seenOf_16g.2.2.2.2.2.2.2.2.2
theorem dX12_seenOf_30g : (decode cX12_seenOf 30 = .ok (.iaload, 1)) ∧ (decode cX12_seenOf 31 = .ok (.iload_n 1, 1)) ∧ (decode cX12_seenOf 32 = .ok (.if_icmp .ne 27, 3)) ∧ (decode cX12_seenOf 35 = .ok (.aload_n 0, 1)) ∧ (decode cX12_seenOf 36 = .ok (.getfield 20, 3)) ∧ (decode cX12_seenOf 39 = .ok (.sipush 224, 3)) ∧ (decode cX12_seenOf 42 = .ok (.iconst 4, 1)) ∧ (decode cX12_seenOf 43 = .ok (.iload_n 3, 1)) ∧ (decode cX12_seenOf 44 = .ok (.imul, 1)) ∧ (decode cX12_seenOf 45 = .ok (.iadd, 1)) := by decide +kernel
theorem dX12_seenOf_30 : decode cX12_seenOf 30 = .ok (.iaload, 1) := dX12_seenOf_30g.1
theorem dX12_seenOf_31 : decode cX12_seenOf 31 = .ok (.iload_n 1, 1) := dX12_seenOf_30g.2.1
theorem dX12_seenOf_32 : decode cX12_seenOf 32 = .ok (.if_icmp .ne 27, 3) := dX12_seenOf_30g.2.2.1
theorem dX12_seenOf_35 : decode cX12_seenOf 35 = .ok (.aload_n 0, 1) := dX12_seenOf_30g.2.2.2.1
theorem dX12_seenOf_36 : decode cX12_seenOf 36 = .ok (.getfield 20, 3) := dX12_seenOf_30g.2.2.2.2.1
theorem dX12_seenOf_39 : decode cX12_seenOf 39 = .ok (.sipush 224, 3) := dX12_seenOf_30g.2.2.2.2.2.1
theorem dX12_seenOf_42 : decode cX12_seenOf 42 = .ok (.iconst 4, 1) := dX12_seenOf_30g.2.2.2.2.2.2.1
theorem dX12_seenOf_43 : decode cX12_seenOf 43 = .ok (.iload_n 3, 1) := dX12_seenOf_30g.2.2.2.2.2.2.2.1
theorem dX12_seenOf_44 : decode cX12_seenOf 44 = .ok (.imul, 1) := dX12_seenOf_30g.2.2.2.2.2.2.2.2.1
theorem dX12_seenOf_45 : decode cX12_seenOf 45 = .ok (.iadd, 1) := dX12_seenOf_30g.2.2.2.2.2.2.2.2.2
theorem dX12_seenOf_46g : (decode cX12_seenOf 46 = .ok (.iconst 3, 1)) ∧ (decode cX12_seenOf 47 = .ok (.iadd, 1)) ∧ (decode cX12_seenOf 48 = .ok (.iaload, 1)) ∧ (decode cX12_seenOf 49 = .ok (.iconst 1, 1)) ∧ (decode cX12_seenOf 50 = .ok (.if_icmp .ne 9, 3)) ∧ (decode cX12_seenOf 53 = .ok (.iconst 1, 1)) ∧ (decode cX12_seenOf 54 = .ok (.iload_n 3, 1)) ∧ (decode cX12_seenOf 55 = .ok (.ishl, 1)) ∧ (decode cX12_seenOf 56 = .ok (.goto 4, 3)) ∧ (decode cX12_seenOf 59 = .ok (.iconst 0, 1)) := by decide +kernel
theorem dX12_seenOf_46 : decode cX12_seenOf 46 = .ok (.iconst 3, 1) := dX12_seenOf_46g.1
theorem dX12_seenOf_47 : decode cX12_seenOf 47 = .ok (.iadd, 1) := dX12_seenOf_46g.2.1
theorem dX12_seenOf_48 : decode cX12_seenOf 48 = .ok (.iaload, 1) := dX12_seenOf_46g.2.2.1
theorem dX12_seenOf_49 : decode cX12_seenOf 49 = .ok (.iconst 1, 1) := dX12_seenOf_46g.2.2.2.1
theorem dX12_seenOf_50 : decode cX12_seenOf 50 = .ok (.if_icmp .ne 9, 3) := dX12_seenOf_46g.2.2.2.2.1
theorem dX12_seenOf_53 : decode cX12_seenOf 53 = .ok (.iconst 1, 1) := dX12_seenOf_46g.2.2.2.2.2.1
theorem dX12_seenOf_54 : decode cX12_seenOf 54 = .ok (.iload_n 3, 1) := dX12_seenOf_46g.2.2.2.2.2.2.1
theorem dX12_seenOf_55 : decode cX12_seenOf 55 = .ok (.ishl, 1) := dX12_seenOf_46g.2.2.2.2.2.2.2.1
theorem dX12_seenOf_56 : decode cX12_seenOf 56 = .ok (.goto 4, 3) := dX12_seenOf_46g.2.2.2.2.2.2.2.2.1
theorem dX12_seenOf_59 : decode cX12_seenOf 59 = .ok (.iconst 0, 1) := dX12_seenOf_46g.2.2.2.2.2.2.2.2.2
theorem dX12_seenOf_60g : (decode cX12_seenOf 60 = .ok (.ior, 1)) ∧ (decode cX12_seenOf 61 = .ok (.istore_n 2, 1)) ∧ (decode cX12_seenOf 62 = .ok (.iinc 3 1, 3)) ∧ (decode cX12_seenOf 65 = .ok (.goto (-61), 3)) ∧ (decode cX12_seenOf 68 = .ok (.iload_n 2, 1)) ∧ (decode cX12_seenOf 69 = .ok (.ireturn, 1)) := by decide +kernel
theorem dX12_seenOf_60 : decode cX12_seenOf 60 = .ok (.ior, 1) := dX12_seenOf_60g.1
theorem dX12_seenOf_61 : decode cX12_seenOf 61 = .ok (.istore_n 2, 1) := dX12_seenOf_60g.2.1
theorem dX12_seenOf_62 : decode cX12_seenOf 62 = .ok (.iinc 3 1, 3) := dX12_seenOf_60g.2.2.1
theorem dX12_seenOf_65 : decode cX12_seenOf 65 = .ok (.goto (-61), 3) := dX12_seenOf_60g.2.2.2.1
theorem dX12_seenOf_68 : decode cX12_seenOf 68 = .ok (.iload_n 2, 1) := dX12_seenOf_60g.2.2.2.2.1
theorem dX12_seenOf_69 : decode cX12_seenOf 69 = .ok (.ireturn, 1) := dX12_seenOf_60g.2.2.2.2.2
set_option maxHeartbeats 4000000 in
set_option maxRecDepth 100000 in
theorem c_X12_seenOf (l : Launch) (E : Nat → Nat) (D : va_G) (G : th_G) (H0 : Heap) (h0 : Nat) (hG0 : G h0 = some (10, 0)) (x1 : Int32) : Met l yX12_seenOf (tb (.code yX12_seenOf cX12_seenOf 4 (some .int))) (rm 0) (va_Pc [.ref h0, .int x1] (PR E D G H0)) (QS H0 (fun r => 0 ≤ (r : Int32).toInt ∧ (r : Int32).toInt ≤ 1023)) 0 0 (fun _ => False) := by
  refine Met.ofW (cc := cX12_seenOf) (maxL := 4) (ret := (some .int)) (by decide) rfl ?_
  intro p e s m args below meth c s₁ B hml hv
  obtain ⟨hav, rfl, hI, hN, hK⟩ := hv
  have hx := B.exec
  have hb := B.bytes
  have hr := B.returns
  have hts := atoms_spec (ws := tb (.code yX12_seenOf cX12_seenOf 4 (some .int))) B.pre
  have hown : s.vm.findClass RX12 = some m.cls := findClass_of_methodNamed B.named
  have hlocks := B.notSynchronized
  have hS : va_S (fun _ => False) s.heap s.heap [] := va_S.rf
  have hl := lv_entry ([.ref h0, .int x1]) (n := 4) (Nat.le_of_ble_eq_true rfl)
  rw [show entryFrame m args 4 = entryFrame m ([.ref h0, .int x1] : List Value).toArray 4 from by rw [hav], lg_entry_eq]
  generalize (lg_sl ([.ref h0, .int x1]) ++ List.replicate (4 - (lg_sl ([.ref h0, .int x1])).length) Slot.unset).toArray = ls at hl ⊢
  have hl : lv_has ls 4 [(0, .ref h0), (1, .int x1)] := hl
  generalize hR : (headSpec (tb (.code yX12_seenOf cX12_seenOf 4 (some .int))) (rm 0)).room = R
  have hR := hR.symm
  generalize hQ : MQ below (QS s.heap (fun r => 0 ≤ (r : Int32).toInt ∧ (r : Int32).toInt ≤ 1023)) args s 0 0 (fun _ => False) = QF
  have hQ := hQ.symm
  obtain ⟨q_3, hq_3, hf_3⟩ := fr_of hI hG0 3 (by decide) (kd := (1, 5123)) rfl
  obtain ⟨F_3, hA_3, hP_3⟩ := om_1 hI hq_3 List.not_mem_nil
  have J_4 : ∀ (nn : Nat) (locs : List Loc) (ls : Array Slot) (v884 : Int32) (v885 : Int32) , (Int.toNat (10 - v884.toInt) = nn) → lv_has ls 4 [(3, .int v884), (2, .int v885), (0, .ref h0), (1, .int x1)] → ((0 : Int) ≤ v884.toInt ∧ v884.toInt ≤ 10) → ((0 : Int) ≤ v885.toInt ∧ v885.toInt ≤ 1023) → va_S (fun _ => False) s.heap s.heap locs → W p l e R s m args below meth c s.heap locs 0 0 QF (F0 m 4 ls []) := by
    intro nn
    induction nn using Nat.strongRecOn with
    | ind nn ih_4 =>
      intro locs ls v884 v885  hm hl k886 k887 hS
      refine lv_iload_n hx hb dX12_seenOf_4 rfl (lv_at hl 0 rfl) ?_
      refine lv_aload_n hx hb dX12_seenOf_5 rfl (lv_at hl 2 rfl) ?_
      refine gmA hx hb hts inT12 hown hK hI List.not_mem_nil hG0 3 (by decide) (hts _ (tb_c wd_1236)) rfl rfl dX12_seenOf_6 (fun a888 hq889 hf890 => ?_)
      obtain rfl := fr.uniq (by decide) hf_3 hf890
      refine lv_sipush (v := 312) hx hb dX12_seenOf_9 (by decide) ?_
      refine th_iald hx hb hK hA_3 0 rfl (iv_in (X := (312)) (by decide) (by omega) (by omega)) dX12_seenOf_12 (fun v891 e892 => ?_)
      have k893 := kg_m312 (kOk.get (i := 312) hP_3 e892 (X := (312)) (by decide) (by omega) (by omega)) (by omega) (by omega) (by omega)
      refine lv_icmp_ge (tgt := 68) hx hb dX12_seenOf_13 (by decide) (fun c894 => ?_) (fun c894 => ?_)
      · skip
        have k895 := iv_le (X := v891.toInt) (Y := v884.toInt) rfl rfl c894
        refine lv_iload_n hx hb dX12_seenOf_68 rfl (lv_at hl 1 rfl) ?_
        have hpost : 0 ≤ (v885 : Int32).toInt ∧ (v885 : Int32).toInt ≤ 1023 := by omega
        rw [hQ]
        exact W.iret (v := v885) hx hb hr (fun t ht hW => ⟨⟨v885, (), rfl, hpost, ht⟩, hS.F ht⟩) hS.2.2 dX12_seenOf_69
      · skip
        have k896 := iv_nle (X := v891.toInt) (Y := v884.toInt) rfl rfl c894
        refine lv_iload_n hx hb dX12_seenOf_16 rfl (lv_at hl 1 rfl) ?_
        refine lv_aload_n hx hb dX12_seenOf_17 rfl (lv_at hl 2 rfl) ?_
        refine gmA hx hb hts inT12 hown hK hI List.not_mem_nil hG0 3 (by decide) (hts _ (tb_c wd_1236)) rfl rfl dX12_seenOf_18 (fun a897 hq898 hf899 => ?_)
        obtain rfl := fr.uniq (by decide) hf_3 hf899
        refine lv_sipush (v := 224) hx hb dX12_seenOf_21 (by decide) ?_
        refine lv_iconst (v := 4) hx hb dX12_seenOf_24 (by decide) ?_
        refine lv_iload_n hx hb dX12_seenOf_25 rfl (lv_at hl 0 rfl) ?_
        refine lv_imul hx hb dX12_seenOf_26 ?_
        refine lv_topi (fun v900 e901 => ?_)
        have tv900 : v900.toInt = (4) * v884.toInt := iv_mul (by decide) rfl e901 (by omega) (by omega)
        refine lv_iadd hx hb dX12_seenOf_27 ?_
        refine lv_topi (fun v902 e903 => ?_)
        have tv902 : v902.toInt = (224) + v900.toInt := iv_add (by decide) rfl e903 (by omega) (by omega)
        refine lv_iconst (v := 2) hx hb dX12_seenOf_28 (by decide) ?_
        refine lv_iadd hx hb dX12_seenOf_29 ?_
        refine lv_topi (fun v904 e905 => ?_)
        have tv904 : v904.toInt = v902.toInt + (2) := iv_add rfl (by decide) e905 (by omega) (by omega)
        refine th_iald hx hb hK hA_3 0 rfl (iv_in (X := v904.toInt) rfl (by omega) (by omega)) dX12_seenOf_30 (fun v906 e907 => ?_)
        refine lv_iload_n hx hb dX12_seenOf_31 rfl (lv_at hl 3 rfl) ?_
        have k908 := iv_lo v906
        have k909 := iv_hi v906
        have k910 := iv_lo x1
        have k911 := iv_hi x1
        refine lv_icmp_ne (tgt := 59) hx hb dX12_seenOf_32 (by decide) (fun c912 => ?_) (fun c912 => ?_)
        · skip
          have k913 := iv_ne (X := v906.toInt) (Y := x1.toInt) rfl rfl c912
          refine lv_iconst (v := 0) hx hb dX12_seenOf_59 (by decide) ?_
          refine lv_ior hx hb dX12_seenOf_60 ?_
          refine lv_topi (fun v914 e915 => ?_)
          have tv914 := iv_or (X := v885.toInt) (Y := (0)) rfl (by decide) e915 (by omega) (by omega) (by omega) (by omega)
          refine lv_istore_n (lv' := [(2, .int v914), (3, .int v884), (0, .ref h0), (1, .int x1)]) hx hb dX12_seenOf_61 rfl hl (by decide) rfl (fun ls hl => ?_)
          obtain ⟨v916, e917⟩ : ∃ y : Int32, y = v884 + (1) := ⟨_, rfl⟩
          have tv916 : v916.toInt = v884.toInt + (1) := iv_add rfl (by decide) e917 (by omega) (by omega)
          refine lv_iinc (v := v916) (lv' := [(3, .int v916), (2, .int v914), (0, .ref h0), (1, .int x1)]) hx hb dX12_seenOf_62 hl (k := 1) rfl (by rw [e917]; rfl) (by decide) rfl (fun ls hl => ?_)
          refine lv_goto (tgt := 4) hx hb dX12_seenOf_65 (by decide) ?_
          exact ih_4 _ (by omega) locs ls v916 v914  rfl (lv_sub hl [0, 1, 2, 3] rfl) ⟨by omega, by omega⟩ ⟨by omega, by omega⟩ hS
        · skip
          have k918 := iv_eq (X := v906.toInt) (Y := x1.toInt) rfl rfl c912
          refine lv_aload_n hx hb dX12_seenOf_35 rfl (lv_at hl 2 rfl) ?_
          refine gmA hx hb hts inT12 hown hK hI List.not_mem_nil hG0 3 (by decide) (hts _ (tb_c wd_1236)) rfl rfl dX12_seenOf_36 (fun a919 hq920 hf921 => ?_)
          obtain rfl := fr.uniq (by decide) hf_3 hf921
          refine lv_sipush (v := 224) hx hb dX12_seenOf_39 (by decide) ?_
          refine lv_iconst (v := 4) hx hb dX12_seenOf_42 (by decide) ?_
          refine lv_iload_n hx hb dX12_seenOf_43 rfl (lv_at hl 0 rfl) ?_
          refine lv_imul hx hb dX12_seenOf_44 ?_
          refine lv_topi (fun v922 e923 => ?_)
          have tv922 : v922.toInt = (4) * v884.toInt := iv_mul (by decide) rfl e923 (by omega) (by omega)
          refine lv_iadd hx hb dX12_seenOf_45 ?_
          refine lv_topi (fun v924 e925 => ?_)
          have tv924 : v924.toInt = (224) + v922.toInt := iv_add (by decide) rfl e925 (by omega) (by omega)
          refine lv_iconst (v := 3) hx hb dX12_seenOf_46 (by decide) ?_
          refine lv_iadd hx hb dX12_seenOf_47 ?_
          refine lv_topi (fun v926 e927 => ?_)
          have tv926 : v926.toInt = v924.toInt + (3) := iv_add rfl (by decide) e927 (by omega) (by omega)
          refine th_iald hx hb hK hA_3 0 rfl (iv_in (X := v926.toInt) rfl (by omega) (by omega)) dX12_seenOf_48 (fun v928 e929 => ?_)
          refine lv_iconst (v := 1) hx hb dX12_seenOf_49 (by decide) ?_
          have k930 := iv_lo v928
          have k931 := iv_hi v928
          refine lv_icmp_ne (tgt := 59) hx hb dX12_seenOf_50 (by decide) (fun c932 => ?_) (fun c932 => ?_)
          · skip
            have k933 := iv_ne (X := v928.toInt) (Y := (1)) rfl (by decide) c932
            refine lv_iconst (v := 0) hx hb dX12_seenOf_59 (by decide) ?_
            refine lv_ior hx hb dX12_seenOf_60 ?_
            refine lv_topi (fun v934 e935 => ?_)
            have tv934 := iv_or (X := v885.toInt) (Y := (0)) rfl (by decide) e935 (by omega) (by omega) (by omega) (by omega)
            refine lv_istore_n (lv' := [(2, .int v934), (3, .int v884), (0, .ref h0), (1, .int x1)]) hx hb dX12_seenOf_61 rfl hl (by decide) rfl (fun ls hl => ?_)
            obtain ⟨v936, e937⟩ : ∃ y : Int32, y = v884 + (1) := ⟨_, rfl⟩
            have tv936 : v936.toInt = v884.toInt + (1) := iv_add rfl (by decide) e937 (by omega) (by omega)
            refine lv_iinc (v := v936) (lv' := [(3, .int v936), (2, .int v934), (0, .ref h0), (1, .int x1)]) hx hb dX12_seenOf_62 hl (k := 1) rfl (by rw [e937]; rfl) (by decide) rfl (fun ls hl => ?_)
            refine lv_goto (tgt := 4) hx hb dX12_seenOf_65 (by decide) ?_
            exact ih_4 _ (by omega) locs ls v936 v934  rfl (lv_sub hl [0, 1, 2, 3] rfl) ⟨by omega, by omega⟩ ⟨by omega, by omega⟩ hS
          · skip
            have k938 := iv_eq (X := v928.toInt) (Y := (1)) rfl (by decide) c932
            refine lv_iconst (v := 1) hx hb dX12_seenOf_53 (by decide) ?_
            refine lv_iload_n hx hb dX12_seenOf_54 rfl (lv_at hl 0 rfl) ?_
            refine lv_ishl hx hb dX12_seenOf_55 ?_
            refine lv_topi (fun v939 e940 => ?_)
            have tv939 := iv_1sh (X := v884.toInt) rfl e940 (by omega) (by omega)
            refine lv_goto (tgt := 60) hx hb dX12_seenOf_56 (by decide) ?_
            refine lv_ior hx hb dX12_seenOf_60 ?_
            refine lv_topi (fun v941 e942 => ?_)
            have tv941 := iv_or (X := v885.toInt) (Y := v939.toInt) rfl rfl e942 (by omega) (by omega) (by omega) (by omega)
            refine lv_istore_n (lv' := [(2, .int v941), (3, .int v884), (0, .ref h0), (1, .int x1)]) hx hb dX12_seenOf_61 rfl hl (by decide) rfl (fun ls hl => ?_)
            obtain ⟨v943, e944⟩ : ∃ y : Int32, y = v884 + (1) := ⟨_, rfl⟩
            have tv943 : v943.toInt = v884.toInt + (1) := iv_add rfl (by decide) e944 (by omega) (by omega)
            refine lv_iinc (v := v943) (lv' := [(3, .int v943), (2, .int v941), (0, .ref h0), (1, .int x1)]) hx hb dX12_seenOf_62 hl (k := 1) rfl (by rw [e944]; rfl) (by decide) rfl (fun ls hl => ?_)
            refine lv_goto (tgt := 4) hx hb dX12_seenOf_65 (by decide) ?_
            exact ih_4 _ (by omega) locs ls v943 v941  rfl (lv_sub hl [0, 1, 2, 3] rfl) ⟨by omega, by omega⟩ ⟨by omega, by omega⟩ hS
  refine lv_iconst (v := 0) hx hb dX12_seenOf_0 (by decide) ?_
  refine lv_istore_n (lv' := [(2, .int 0), (0, .ref h0), (1, .int x1)]) hx hb dX12_seenOf_1 rfl hl (by decide) rfl (fun ls hl => ?_)
  refine lv_iconst (v := 0) hx hb dX12_seenOf_2 (by decide) ?_
  refine lv_istore_n (lv' := [(3, .int 0), (2, .int 0), (0, .ref h0), (1, .int x1)]) hx hb dX12_seenOf_3 rfl hl (by decide) rfl (fun ls hl => ?_)
  have zl : (0 : Int32).toInt = 0 := by decide
  exact J_4 _ [] ls 0 0  rfl (lv_sub hl [0, 1, 2, 3] rfl) ⟨by decide, by decide⟩ ⟨by decide, by decide⟩ hS
theorem dX12_suspects_0g : (decode cX12_suspects 0 = .ok (.iload_n 1, 1)) ∧ (decode cX12_suspects 1 = .ok (.invokestatic 129, 3)) ∧ (decode cX12_suspects 4 = .ok (.ifCond .eq 8, 3)) ∧ (decode cX12_suspects 7 = .ok (.iload_n 2, 1)) ∧ (decode cX12_suspects 8 = .ok (.iconst (-1), 1)) ∧ (decode cX12_suspects 9 = .ok (.if_icmp .ge 5, 3)) ∧ (decode cX12_suspects 12 = .ok (.iconst (-1), 1)) ∧ (decode cX12_suspects 13 = .ok (.ireturn, 1)) ∧ (decode cX12_suspects 14 = .ok (.aload_n 0, 1)) ∧ (decode cX12_suspects 15 = .ok (.invokevirtual 138, 3)) := by decide +kernel
theorem dX12_suspects_0 : decode cX12_suspects 0 = .ok (.iload_n 1, 1) := dX12_suspects_0g.1
theorem dX12_suspects_1 : decode cX12_suspects 1 = .ok (.invokestatic 129, 3) := dX12_suspects_0g.2.1
theorem dX12_suspects_4 : decode cX12_suspects 4 = .ok (.ifCond .eq 8, 3) := dX12_suspects_0g.2.2.1
theorem dX12_suspects_7 : decode cX12_suspects 7 = .ok (.iload_n 2, 1) := dX12_suspects_0g.2.2.2.1
theorem dX12_suspects_8 : decode cX12_suspects 8 = .ok (.iconst (-1), 1) := dX12_suspects_0g.2.2.2.2.1
theorem dX12_suspects_9 : decode cX12_suspects 9 = .ok (.if_icmp .ge 5, 3) := dX12_suspects_0g.2.2.2.2.2.1
theorem dX12_suspects_12 : decode cX12_suspects 12 = .ok (.iconst (-1), 1) := dX12_suspects_0g.2.2.2.2.2.2.1
theorem dX12_suspects_13 : decode cX12_suspects 13 = .ok (.ireturn, 1) := dX12_suspects_0g.2.2.2.2.2.2.2.1
theorem dX12_suspects_14 : decode cX12_suspects 14 = .ok (.aload_n 0, 1) := dX12_suspects_0g.2.2.2.2.2.2.2.2.1
theorem dX12_suspects_15 : decode cX12_suspects 15 = .ok (.invokevirtual 138, 3) := dX12_suspects_0g.2.2.2.2.2.2.2.2.2
theorem dX12_suspects_18g : (decode cX12_suspects 18 = .ok (.aload_n 0, 1)) ∧ (decode cX12_suspects 19 = .ok (.iload_n 1, 1)) ∧ (decode cX12_suspects 20 = .ok (.invokevirtual 348, 3)) ∧ (decode cX12_suspects 23 = .ok (.istore_n 3, 1)) ∧ (decode cX12_suspects 24 = .ok (.iconst 0, 1)) ∧ (decode cX12_suspects 25 = .ok (.istore 4, 2)) ∧ (decode cX12_suspects 27 = .ok (.iconst 0, 1)) ∧ (decode cX12_suspects 28 = .ok (.istore 5, 2)) ∧ (decode cX12_suspects 30 = .ok (.iload 5, 2)) ∧ (decode cX12_suspects 32 = .ok (.sipush 2304, 3)) := by decide +kernel
theorem dX12_suspects_18 : decode cX12_suspects 18 = .ok (.aload_n 0, 1) := dX12_suspects_18g.1
theorem dX12_suspects_19 : decode cX12_suspects 19 = .ok (.iload_n 1, 1) := dX12_suspects_18g.2.1
theorem dX12_suspects_20 : decode cX12_suspects 20 = .ok (.invokevirtual 348, 3) := dX12_suspects_18g.2.2.1
theorem dX12_suspects_23 : decode cX12_suspects 23 = .ok (.istore_n 3, 1) := dX12_suspects_18g.2.2.2.1
theorem dX12_suspects_24 : decode cX12_suspects 24 = .ok (.iconst 0, 1) := dX12_suspects_18g.2.2.2.2.1
theorem dX12_suspects_25 : decode cX12_suspects 25 = .ok (.istore 4, 2) := dX12_suspects_18g.2.2.2.2.2.1
theorem dX12_suspects_27 : decode cX12_suspects 27 = .ok (.iconst 0, 1) := dX12_suspects_18g.2.2.2.2.2.2.1
theorem dX12_suspects_28 : decode cX12_suspects 28 = .ok (.istore 5, 2) := dX12_suspects_18g.2.2.2.2.2.2.2.1
theorem dX12_suspects_30 : decode cX12_suspects 30 = .ok (.iload 5, 2) := dX12_suspects_18g.2.2.2.2.2.2.2.2.1
theorem dX12_suspects_32 : decode cX12_suspects 32 = .ok (.sipush 2304, 3) := dX12_suspects_18g.2.2.2.2.2.2.2.2.2
theorem dX12_suspects_35g : (decode cX12_suspects 35 = .ok (.if_icmp .ge 43, 3)) ∧ (decode cX12_suspects 38 = .ok (.aload_n 0, 1)) ∧ (decode cX12_suspects 39 = .ok (.iload 5, 2)) ∧ (decode cX12_suspects 41 = .ok (.bipush 24, 2)) ∧ (decode cX12_suspects 43 = .ok (.irem, 1)) ∧ (decode cX12_suspects 44 = .ok (.iload 5, 2)) ∧ (decode cX12_suspects 46 = .ok (.bipush 24, 2)) ∧ (decode cX12_suspects 48 = .ok (.idiv, 1)) ∧ (decode cX12_suspects 49 = .ok (.iload_n 1, 1)) ∧ (decode cX12_suspects 50 = .ok (.invokevirtual 351, 3)) := by decide +kernel
theorem dX12_suspects_35 : decode cX12_suspects 35 = .ok (.if_icmp .ge 43, 3) := dX12_suspects_35g.1
theorem dX12_suspects_38 : decode cX12_suspects 38 = .ok (.aload_n 0, 1) := dX12_suspects_35g.2.1
theorem dX12_suspects_39 : decode cX12_suspects 39 = .ok (.iload 5, 2) := dX12_suspects_35g.2.2.1
theorem dX12_suspects_41 : decode cX12_suspects 41 = .ok (.bipush 24, 2) := dX12_suspects_35g.2.2.2.1
theorem dX12_suspects_43 : decode cX12_suspects 43 = .ok (.irem, 1) := dX12_suspects_35g.2.2.2.2.1
theorem dX12_suspects_44 : decode cX12_suspects 44 = .ok (.iload 5, 2) := dX12_suspects_35g.2.2.2.2.2.1
theorem dX12_suspects_46 : decode cX12_suspects 46 = .ok (.bipush 24, 2) := dX12_suspects_35g.2.2.2.2.2.2.1
theorem dX12_suspects_48 : decode cX12_suspects 48 = .ok (.idiv, 1) := dX12_suspects_35g.2.2.2.2.2.2.2.1
theorem dX12_suspects_49 : decode cX12_suspects 49 = .ok (.iload_n 1, 1) := dX12_suspects_35g.2.2.2.2.2.2.2.2.1
theorem dX12_suspects_50 : decode cX12_suspects 50 = .ok (.invokevirtual 351, 3) := dX12_suspects_35g.2.2.2.2.2.2.2.2.2
theorem dX12_suspects_53g : (decode cX12_suspects 53 = .ok (.iload_n 3, 1)) ∧ (decode cX12_suspects 54 = .ok (.if_icmp .eq 6, 3)) ∧ (decode cX12_suspects 57 = .ok (.goto 15, 3)) ∧ (decode cX12_suspects 60 = .ok (.iload 4, 2)) ∧ (decode cX12_suspects 62 = .ok (.iload_n 2, 1)) ∧ (decode cX12_suspects 63 = .ok (.if_icmp .ne 6, 3)) ∧ (decode cX12_suspects 66 = .ok (.iload 5, 2)) ∧ (decode cX12_suspects 68 = .ok (.ireturn, 1)) ∧ (decode cX12_suspects 69 = .ok (.iinc 4 1, 3)) ∧ (decode cX12_suspects 72 = .ok (.iinc 5 1, 3)) := by decide +kernel
theorem dX12_suspects_53 : decode cX12_suspects 53 = .ok (.iload_n 3, 1) := dX12_suspects_53g.1
theorem dX12_suspects_54 : decode cX12_suspects 54 = .ok (.if_icmp .eq 6, 3) := dX12_suspects_53g.2.1
theorem dX12_suspects_57 : decode cX12_suspects 57 = .ok (.goto 15, 3) := dX12_suspects_53g.2.2.1
theorem dX12_suspects_60 : decode cX12_suspects 60 = .ok (.iload 4, 2) := dX12_suspects_53g.2.2.2.1
theorem dX12_suspects_62 : decode cX12_suspects 62 = .ok (.iload_n 2, 1) := dX12_suspects_53g.2.2.2.2.1
theorem dX12_suspects_63 : decode cX12_suspects 63 = .ok (.if_icmp .ne 6, 3) := dX12_suspects_53g.2.2.2.2.2.1
theorem dX12_suspects_66 : decode cX12_suspects 66 = .ok (.iload 5, 2) := dX12_suspects_53g.2.2.2.2.2.2.1
theorem dX12_suspects_68 : decode cX12_suspects 68 = .ok (.ireturn, 1) := dX12_suspects_53g.2.2.2.2.2.2.2.1
theorem dX12_suspects_69 : decode cX12_suspects 69 = .ok (.iinc 4 1, 3) := dX12_suspects_53g.2.2.2.2.2.2.2.2.1
theorem dX12_suspects_72 : decode cX12_suspects 72 = .ok (.iinc 5 1, 3) := dX12_suspects_53g.2.2.2.2.2.2.2.2.2
theorem dX12_suspects_75g : (decode cX12_suspects 75 = .ok (.goto (-45), 3)) ∧ (decode cX12_suspects 78 = .ok (.iload_n 2, 1)) ∧ (decode cX12_suspects 79 = .ok (.iconst (-1), 1)) ∧ (decode cX12_suspects 80 = .ok (.if_icmp .ne 8, 3)) ∧ (decode cX12_suspects 83 = .ok (.iload 4, 2)) ∧ (decode cX12_suspects 85 = .ok (.goto 4, 3)) ∧ (decode cX12_suspects 88 = .ok (.iconst (-1), 1)) ∧ (decode cX12_suspects 89 = .ok (.ireturn, 1)) := by decide +kernel
theorem dX12_suspects_75 : decode cX12_suspects 75 = .ok (.goto (-45), 3) := dX12_suspects_75g.1
theorem dX12_suspects_78 : decode cX12_suspects 78 = .ok (.iload_n 2, 1) := dX12_suspects_75g.2.1
theorem dX12_suspects_79 : decode cX12_suspects 79 = .ok (.iconst (-1), 1) := dX12_suspects_75g.2.2.1
theorem dX12_suspects_80 : decode cX12_suspects 80 = .ok (.if_icmp .ne 8, 3) := dX12_suspects_75g.2.2.2.1
theorem dX12_suspects_83 : decode cX12_suspects 83 = .ok (.iload 4, 2) := dX12_suspects_75g.2.2.2.2.1
theorem dX12_suspects_85 : decode cX12_suspects 85 = .ok (.goto 4, 3) := dX12_suspects_75g.2.2.2.2.2.1
theorem dX12_suspects_88 : decode cX12_suspects 88 = .ok (.iconst (-1), 1) := dX12_suspects_75g.2.2.2.2.2.2.1
theorem dX12_suspects_89 : decode cX12_suspects 89 = .ok (.ireturn, 1) := dX12_suspects_75g.2.2.2.2.2.2.2
set_option maxHeartbeats 4000000 in
set_option maxRecDepth 100000 in
theorem c_X12_suspects (l : Launch) (E : Nat → Nat) (D : va_G) (G : th_G) (h0 : Nat) (hG0 : G h0 = some (10, 0)) (x1 : Int32) (x2 : Int32) : Met l yX12_suspects (tb (.code yX12_suspects cX12_suspects 6 (some .int))) (rm 69) (va_Pc [.ref h0, .int x1, .int x2] (PX E D G (fun H => True))) (QXi E D G (fun r H => True)) 0 0 (th_A G) := by
  refine Met.ofW (cc := cX12_suspects) (maxL := 6) (ret := (some .int)) (by decide) rfl ?_
  intro p e s m args below meth c s₁ B hml hv
  obtain ⟨hav, ⟨hI, hN, hK⟩, hX⟩ := hv
  have hx := B.exec
  have hb := B.bytes
  have hr := B.returns
  have hts := atoms_spec (ws := tb (.code yX12_suspects cX12_suspects 6 (some .int))) B.pre
  have hown : s.vm.findClass RX12 = some m.cls := findClass_of_methodNamed B.named
  have hlocks := B.notSynchronized
  have hS : va_S (th_A G) s.heap s.heap [] := va_S.rf
  have hl := lv_entry ([.ref h0, .int x1, .int x2]) (n := 6) (Nat.le_of_ble_eq_true rfl)
  rw [show entryFrame m args 6 = entryFrame m ([.ref h0, .int x1, .int x2] : List Value).toArray 6 from by rw [hav], lg_entry_eq]
  generalize (lg_sl ([.ref h0, .int x1, .int x2]) ++ List.replicate (6 - (lg_sl ([.ref h0, .int x1, .int x2])).length) Slot.unset).toArray = ls at hl ⊢
  have hl : lv_has ls 6 [(0, .ref h0), (1, .int x1), (2, .int x2)] := hl
  generalize hR : (headSpec (tb (.code yX12_suspects cX12_suspects 6 (some .int))) (rm 69)).room = R
  have hR := hR.symm
  generalize hQ : MQ below (QXi E D G (fun r H => True)) args s 0 0 (th_A G) = QF
  have hQ := hQ.symm
  have J_30 : ∀ (nn : Nat) (H : Heap) (locs : List Loc) (ls : Array Slot) (v2324 : Int32) (v2325 : Int32) (v2326 : Int32) , (Int.toNat (2304 - v2324.toInt) = nn) → lv_has ls 6 [(5, .int v2324), (4, .int v2325), (3, .int v2326), (0, .ref h0), (1, .int x1), (2, .int x2)] → ((0 : Int) ≤ v2324.toInt ∧ v2324.toInt ≤ 2304) → ((0 : Int) ≤ v2326.toInt ∧ v2326.toInt ≤ 1023) → ((0 : Int) ≤ x1.toInt ∧ x1.toInt ≤ 3) → ((-1 : Int) ≤ x2.toInt) → th_I (okM E) D G [] H → va_S (th_A G) s.heap H locs → W p l e R s m args below meth c H locs 0 0 QF (F0 m 30 ls []) := by
    intro nn
    induction nn using Nat.strongRecOn with
    | ind nn ih_30 =>
      intro H locs ls v2324 v2325 v2326  hm hl k2327 k2328 k2329 k2330 hI hS
      have J_72 : ∀ (H : Heap) (locs : List Loc) (ls : Array Slot) (v2331 : Int32) , lv_has ls 6 [(4, .int v2331), (5, .int v2324), (3, .int v2326), (0, .ref h0), (1, .int x1), (2, .int x2)] → ((0 : Int) ≤ v2324.toInt ∧ v2324.toInt ≤ 2303) → th_I (okM E) D G [] H → va_S (th_A G) s.heap H locs → W p l e R s m args below meth c H locs 0 0 QF (F0 m 72 ls []) := by
        intro H locs ls v2331  hl k2334 hI hS
        obtain ⟨v2335, e2336⟩ : ∃ y : Int32, y = v2324 + (1) := ⟨_, rfl⟩
        have tv2335 : v2335.toInt = v2324.toInt + (1) := iv_add rfl (by decide) e2336 (by omega) (by omega)
        refine lv_iinc (v := v2335) (lv' := [(5, .int v2335), (4, .int v2331), (3, .int v2326), (0, .ref h0), (1, .int x1), (2, .int x2)]) hx hb dX12_suspects_72 hl (k := 1) rfl (by rw [e2336]; rfl) (by decide) rfl (fun ls hl => ?_)
        refine lv_goto (tgt := 30) hx hb dX12_suspects_75 (by decide) ?_
        exact ih_30 _ (by omega) H locs ls v2335 v2331 v2326  rfl (lv_sub hl [0, 1, 2, 3, 4, 5] rfl) ⟨by omega, by omega⟩ ⟨by omega, by omega⟩ ⟨by omega, by omega⟩ (by omega) hI hS
      refine lv_iload hx hb dX12_suspects_30 (lv_at hl 0 rfl) ?_
      refine lv_sipush (v := 2304) hx hb dX12_suspects_32 (by decide) ?_
      refine lv_icmp_ge (tgt := 78) hx hb dX12_suspects_35 (by decide) (fun c2337 => ?_) (fun c2337 => ?_)
      · skip
        have k2338 := iv_le (X := (2304)) (Y := v2324.toInt) (by decide) rfl c2337
        refine lv_iload_n hx hb dX12_suspects_78 rfl (lv_at hl 5 rfl) ?_
        refine lv_iconst (v := (-1)) hx hb dX12_suspects_79 (by decide) ?_
        have k2339 := iv_lo x2
        have k2340 := iv_hi x2
        refine lv_icmp_ne (tgt := 88) hx hb dX12_suspects_80 (by decide) (fun c2341 => ?_) (fun c2341 => ?_)
        · skip
          have k2342 := iv_ne (X := x2.toInt) (Y := (-1)) rfl (by decide) c2341
          refine lv_iconst (v := (-1)) hx hb dX12_suspects_88 (by decide) ?_
          have hpost : True := trivial
          rw [hQ]
          exact W.iret (v := (-1)) hx hb hr (fun t ht hW => ⟨⟨(-1), (-1), rfl, rfl, ⟨by rw [ht]; exact hI, hN.warm hW, va_K.moved hW.alike hK⟩, by first | (rw [ht]; exact hpost) | exact hpost⟩, hS.F ht⟩) hS.2.2 dX12_suspects_89
        · skip
          have k2343 := iv_eq (X := x2.toInt) (Y := (-1)) rfl (by decide) c2341
          refine lv_iload hx hb dX12_suspects_83 (lv_at hl 1 rfl) ?_
          refine lv_goto (tgt := 89) hx hb dX12_suspects_85 (by decide) ?_
          have hpost : True := trivial
          rw [hQ]
          exact W.iret (v := v2325) hx hb hr (fun t ht hW => ⟨⟨v2325, v2325, rfl, rfl, ⟨by rw [ht]; exact hI, hN.warm hW, va_K.moved hW.alike hK⟩, by first | (rw [ht]; exact hpost) | exact hpost⟩, hS.F ht⟩) hS.2.2 dX12_suspects_89
      · skip
        have k2344 := iv_nle (X := (2304)) (Y := v2324.toInt) (by decide) rfl c2337
        refine lv_aload_n hx hb dX12_suspects_38 rfl (lv_at hl 3 rfl) ?_
        refine lv_iload hx hb dX12_suspects_39 (lv_at hl 0 rfl) ?_
        refine lv_bipush (v := 24) hx hb dX12_suspects_41 (by decide) ?_
        refine lv_irem hx hb dX12_suspects_43 (by decide) ?_
        refine lv_topi (fun v2345 e2346 => ?_)
        have tv2345 := iv_remp (X := v2324.toInt) (Y := 24) rfl (by decide) e2346 (by decide) (by omega)
        refine lv_iload hx hb dX12_suspects_44 (lv_at hl 0 rfl) ?_
        refine lv_bipush (v := 24) hx hb dX12_suspects_46 (by decide) ?_
        refine lv_idiv hx hb dX12_suspects_48 (by decide) ?_
        refine lv_topi (fun v2347 e2348 => ?_)
        have tv2347 := iv_divp (X := v2324.toInt) (Y := 24) rfl (by decide) e2348 (by decide) (by omega)
        refine lv_iload_n hx hb dX12_suspects_49 rfl (lv_at hl 4 rfl) ?_
        refine mr_i (As := [.int v2345, .int v2347, .int x1]) (rest := []) (n := 3) (d := 0) ⟨hx, hb, hml, hown, hts⟩ (c_X12_seenBy l E D G H h0 hG0 v2345 v2347 x1 ⟨by omega, by omega⟩ (by omega)) wd_1765 wd_1767 wp_87 wd_13 wd_1768 (by decide +kernel) ⟨by rw [hR]; exact Nat.le_of_ble_eq_true rfl, by rw [hR]; exact Nat.le_of_ble_eq_true rfl⟩ hI hN hK hS hG0 rfl hl.1 rfl (Nat.le_of_ble_eq_true rfl) dX12_suspects_50 ⟨Nat.zero_le _, Nat.zero_le _⟩ (fun r2349 locs hp hS => ?_)
        have hp2350 := hp
        refine lv_iload_n hx hb dX12_suspects_53 rfl (lv_at hl 2 rfl) ?_
        refine lv_icmp_eq (tgt := 60) hx hb dX12_suspects_54 (by decide) (fun c2351 => ?_) (fun c2351 => ?_)
        · skip
          have k2352 := iv_eq (X := r2349.toInt) (Y := v2326.toInt) rfl rfl c2351
          refine lv_iload hx hb dX12_suspects_60 (lv_at hl 1 rfl) ?_
          refine lv_iload_n hx hb dX12_suspects_62 rfl (lv_at hl 5 rfl) ?_
          have k2353 := iv_lo v2325
          have k2354 := iv_hi v2325
          have k2355 := iv_lo x2
          have k2356 := iv_hi x2
          refine lv_icmp_ne (tgt := 69) hx hb dX12_suspects_63 (by decide) (fun c2357 => ?_) (fun c2357 => ?_)
          · skip
            have k2358 := iv_ne (X := v2325.toInt) (Y := x2.toInt) rfl rfl c2357
            obtain ⟨v2359, e2360⟩ : ∃ y : Int32, y = v2325 + (1) := ⟨_, rfl⟩
            refine lv_iinc (v := v2359) (lv' := [(4, .int v2359), (5, .int v2324), (3, .int v2326), (0, .ref h0), (1, .int x1), (2, .int x2)]) hx hb dX12_suspects_69 hl (k := 1) rfl (by rw [e2360]; rfl) (by decide) rfl (fun ls hl => ?_)
            exact J_72 H locs ls v2359  (lv_sub hl [0, 1, 2, 3, 4, 5] rfl) ⟨by omega, by omega⟩ hI hS
          · skip
            have k2361 := iv_eq (X := v2325.toInt) (Y := x2.toInt) rfl rfl c2357
            refine lv_iload hx hb dX12_suspects_66 (lv_at hl 0 rfl) ?_
            have hpost : True := trivial
            rw [hQ]
            exact W.iret (v := v2324) hx hb hr (fun t ht hW => ⟨⟨v2324, v2324, rfl, rfl, ⟨by rw [ht]; exact hI, hN.warm hW, va_K.moved hW.alike hK⟩, by first | (rw [ht]; exact hpost) | exact hpost⟩, hS.F ht⟩) hS.2.2 dX12_suspects_68
        · skip
          have k2362 := iv_ne (X := r2349.toInt) (Y := v2326.toInt) rfl rfl c2351
          refine lv_goto (tgt := 72) hx hb dX12_suspects_57 (by decide) ?_
          exact J_72 H locs ls v2325  (lv_sub hl [1, 0, 2, 3, 4, 5] rfl) ⟨by omega, by omega⟩ hI hS
  have J_12 : ∀ (H : Heap) (locs : List Loc) (ls : Array Slot)  , lv_has ls 6 [(0, .ref h0), (1, .int x1), (2, .int x2)] → th_I (okM E) D G [] H → va_S (th_A G) s.heap H locs → W p l e R s m args below meth c H locs 0 0 QF (F0 m 12 ls []) := by
    intro H locs ls   hl  hI hS
    refine lv_iconst (v := (-1)) hx hb dX12_suspects_12 (by decide) ?_
    have hpost : True := trivial
    rw [hQ]
    exact W.iret (v := (-1)) hx hb hr (fun t ht hW => ⟨⟨(-1), (-1), rfl, rfl, ⟨by rw [ht]; exact hI, hN.warm hW, va_K.moved hW.alike hK⟩, by first | (rw [ht]; exact hpost) | exact hpost⟩, hS.F ht⟩) hS.2.2 dX12_suspects_13
  refine lv_iload_n hx hb dX12_suspects_0 rfl (lv_at hl 1 rfl) ?_
  refine th_cSs (As := [.int x1]) (rest := []) (n := 1) (d := 1) ⟨hx, hb, hml, hown, hts⟩ (c_X12_isColour l s.heap x1) wd_1545 wd_1546 wd_13 wd_1547 (by decide +kernel) ⟨by rw [hR]; exact Nat.le_of_ble_eq_true rfl, by rw [hR]; exact Nat.le_of_ble_eq_true rfl⟩ hN hS rfl hl.1 rfl (Nat.le_of_ble_eq_true rfl) dX12_suspects_1 ⟨Nat.zero_le _, Nat.zero_le _⟩ (fun r2363 locs hp hS => ?_)
  rcases hp with ⟨rfl, hp⟩ | ⟨rfl, hp⟩
  · skip
    try simp only [rg, not_and, Int.not_le] at hp
    have hp2364 := hp
    refine lv_if_eq (tgt := 12) hx hb dX12_suspects_4 (by decide) (fun c => absurd c (by decide)) (fun _ => ?_)
    refine lv_iload_n hx hb dX12_suspects_7 rfl (lv_at hl 2 rfl) ?_
    refine lv_iconst (v := (-1)) hx hb dX12_suspects_8 (by decide) ?_
    have k2365 := iv_lo x2
    have k2366 := iv_hi x2
    refine lv_icmp_ge (tgt := 14) hx hb dX12_suspects_9 (by decide) (fun c2367 => ?_) (fun c2367 => ?_)
    · skip
      have k2368 := iv_le (X := (-1)) (Y := x2.toInt) (by decide) rfl c2367
      refine lv_aload_n hx hb dX12_suspects_14 rfl (lv_at hl 0 rfl) ?_
      refine mx_v (As := []) (rest := []) (n := 0) (d := 68) ⟨hx, hb, hml, hown, hts⟩ (c_X12_looks l E D G h0 hG0 ) wd_1455 wd_1457 wp_43 wd_13 wd_1458 (by decide +kernel) ⟨by rw [hR]; exact Nat.le_of_ble_eq_true rfl, by rw [hR]; exact Nat.le_of_ble_eq_true rfl⟩ hI hN hK hS hG0 (trivial) rfl hl.1 rfl (Nat.le_of_ble_eq_true rfl) dX12_suspects_15 ⟨Nat.zero_le _, Nat.zero_le _⟩ (fun H locs hI hp hS => ?_)
      refine lv_aload_n hx hb dX12_suspects_18 rfl (lv_at hl 0 rfl) ?_
      refine lv_iload_n hx hb dX12_suspects_19 rfl (lv_at hl 1 rfl) ?_
      refine mr_i (As := [.int x1]) (rest := []) (n := 1) (d := 0) ⟨hx, hb, hml, hown, hts⟩ (c_X12_seenOf l E D G H h0 hG0 x1) wd_1761 wd_1763 wp_86 wd_13 wd_1764 (by decide +kernel) ⟨by rw [hR]; exact Nat.le_of_ble_eq_true rfl, by rw [hR]; exact Nat.le_of_ble_eq_true rfl⟩ hI hN hK hS hG0 rfl hl.1 rfl (Nat.le_of_ble_eq_true rfl) dX12_suspects_20 ⟨Nat.zero_le _, Nat.zero_le _⟩ (fun r2370 locs hp hS => ?_)
      have hp2371 := hp
      refine lv_istore_n (lv' := [(3, .int r2370), (0, .ref h0), (1, .int x1), (2, .int x2)]) hx hb dX12_suspects_23 rfl hl (by decide) rfl (fun ls hl => ?_)
      refine lv_iconst (v := 0) hx hb dX12_suspects_24 (by decide) ?_
      refine lv_istore (lv' := [(4, .int 0), (3, .int r2370), (0, .ref h0), (1, .int x1), (2, .int x2)]) hx hb dX12_suspects_25 hl (by decide) rfl (fun ls hl => ?_)
      refine lv_iconst (v := 0) hx hb dX12_suspects_27 (by decide) ?_
      refine lv_istore (lv' := [(5, .int 0), (4, .int 0), (3, .int r2370), (0, .ref h0), (1, .int x1), (2, .int x2)]) hx hb dX12_suspects_28 hl (by decide) rfl (fun ls hl => ?_)
      have zl : (0 : Int32).toInt = 0 := by decide
      exact J_30 _ H locs ls 0 0 r2370  rfl (lv_sub hl [0, 1, 2, 3, 4, 5] rfl) ⟨by decide, by decide⟩ ⟨by omega, by omega⟩ ⟨by omega, by omega⟩ (by omega) hI hS
    · skip
      have k2372 := iv_nle (X := (-1)) (Y := x2.toInt) (by decide) rfl c2367
      exact J_12 s.heap locs ls   (lv_sub hl [0, 1, 2] rfl)  hI hS
  · skip
    try simp only [rg, not_and, Int.not_le] at hp
    have hp2373 := hp
    refine lv_if_eq (tgt := 12) hx hb dX12_suspects_4 (by decide) (fun _ => ?_) (fun c => absurd c (by decide))
    exact J_12 s.heap locs ls   (lv_sub hl [0, 1, 2] rfl)  hI hS
theorem dX12_pairs_0g : (decode cX12_pairs 0 = .ok (.iload_n 1, 1)) ∧ (decode cX12_pairs 1 = .ok (.invokestatic 129, 3)) ∧ (decode cX12_pairs 4 = .ok (.ifCond .ne 5, 3)) ∧ (decode cX12_pairs 7 = .ok (.iconst (-1), 1)) ∧ (decode cX12_pairs 8 = .ok (.ireturn, 1)) ∧ (decode cX12_pairs 9 = .ok (.aload_n 0, 1)) ∧ (decode cX12_pairs 10 = .ok (.invokevirtual 138, 3)) ∧ (decode cX12_pairs 13 = .ok (.aload_n 0, 1)) ∧ (decode cX12_pairs 14 = .ok (.iload_n 1, 1)) ∧ (decode cX12_pairs 15 = .ok (.invokevirtual 348, 3)) := by decide +kernel
theorem dX12_pairs_0 : decode cX12_pairs 0 = .ok (.iload_n 1, 1) := dX12_pairs_0g.1
theorem dX12_pairs_1 : decode cX12_pairs 1 = .ok (.invokestatic 129, 3) := dX12_pairs_0g.2.1
theorem dX12_pairs_4 : decode cX12_pairs 4 = .ok (.ifCond .ne 5, 3) := dX12_pairs_0g.2.2.1
theorem dX12_pairs_7 : decode cX12_pairs 7 = .ok (.iconst (-1), 1) := dX12_pairs_0g.2.2.2.1
theorem dX12_pairs_8 : decode cX12_pairs 8 = .ok (.ireturn, 1) := dX12_pairs_0g.2.2.2.2.1
theorem dX12_pairs_9 : decode cX12_pairs 9 = .ok (.aload_n 0, 1) := dX12_pairs_0g.2.2.2.2.2.1
theorem dX12_pairs_10 : decode cX12_pairs 10 = .ok (.invokevirtual 138, 3) := dX12_pairs_0g.2.2.2.2.2.2.1
theorem dX12_pairs_13 : decode cX12_pairs 13 = .ok (.aload_n 0, 1) := dX12_pairs_0g.2.2.2.2.2.2.2.1
theorem dX12_pairs_14 : decode cX12_pairs 14 = .ok (.iload_n 1, 1) := dX12_pairs_0g.2.2.2.2.2.2.2.2.1
theorem dX12_pairs_15 : decode cX12_pairs 15 = .ok (.invokevirtual 348, 3) := dX12_pairs_0g.2.2.2.2.2.2.2.2.2
theorem dX12_pairs_18g : (decode cX12_pairs 18 = .ok (.istore_n 2, 1)) ∧ (decode cX12_pairs 19 = .ok (.iconst 0, 1)) ∧ (decode cX12_pairs 20 = .ok (.istore_n 3, 1)) ∧ (decode cX12_pairs 21 = .ok (.iload_n 3, 1)) ∧ (decode cX12_pairs 22 = .ok (.sipush 1024, 3)) ∧ (decode cX12_pairs 25 = .ok (.if_icmp .ge 16, 3)) ∧ (decode cX12_pairs 28 = .ok (.aload_n 0, 1)) ∧ (decode cX12_pairs 29 = .ok (.getfield 73, 3)) ∧ (decode cX12_pairs 32 = .ok (.iload_n 3, 1)) ∧ (decode cX12_pairs 33 = .ok (.iconst 0, 1)) := by decide +kernel
theorem dX12_pairs_18 : decode cX12_pairs 18 = .ok (.istore_n 2, 1) := dX12_pairs_18g.1
theorem dX12_pairs_19 : decode cX12_pairs 19 = .ok (.iconst 0, 1) := dX12_pairs_18g.2.1
theorem dX12_pairs_20 : decode cX12_pairs 20 = .ok (.istore_n 3, 1) := dX12_pairs_18g.2.2.1
theorem dX12_pairs_21 : decode cX12_pairs 21 = .ok (.iload_n 3, 1) := dX12_pairs_18g.2.2.2.1
theorem dX12_pairs_22 : decode cX12_pairs 22 = .ok (.sipush 1024, 3) := dX12_pairs_18g.2.2.2.2.1
theorem dX12_pairs_25 : decode cX12_pairs 25 = .ok (.if_icmp .ge 16, 3) := dX12_pairs_18g.2.2.2.2.2.1
theorem dX12_pairs_28 : decode cX12_pairs 28 = .ok (.aload_n 0, 1) := dX12_pairs_18g.2.2.2.2.2.2.1
theorem dX12_pairs_29 : decode cX12_pairs 29 = .ok (.getfield 73, 3) := dX12_pairs_18g.2.2.2.2.2.2.2.1
theorem dX12_pairs_32 : decode cX12_pairs 32 = .ok (.iload_n 3, 1) := dX12_pairs_18g.2.2.2.2.2.2.2.2.1
theorem dX12_pairs_33 : decode cX12_pairs 33 = .ok (.iconst 0, 1) := dX12_pairs_18g.2.2.2.2.2.2.2.2.2
theorem dX12_pairs_34g : (decode cX12_pairs 34 = .ok (.iastore, 1)) ∧ (decode cX12_pairs 35 = .ok (.iinc 3 1, 3)) ∧ (decode cX12_pairs 38 = .ok (.goto (-17), 3)) ∧ (decode cX12_pairs 41 = .ok (.iconst 0, 1)) ∧ (decode cX12_pairs 42 = .ok (.istore_n 3, 1)) ∧ (decode cX12_pairs 43 = .ok (.iload_n 3, 1)) ∧ (decode cX12_pairs 44 = .ok (.sipush 2304, 3)) ∧ (decode cX12_pairs 47 = .ok (.if_icmp .ge 31, 3)) ∧ (decode cX12_pairs 50 = .ok (.aload_n 0, 1)) ∧ (decode cX12_pairs 51 = .ok (.getfield 73, 3)) := by decide +kernel
theorem dX12_pairs_34 : decode cX12_pairs 34 = .ok (.iastore, 1) := dX12_pairs_34g.1
theorem dX12_pairs_35 : decode cX12_pairs 35 = .ok (.iinc 3 1, 3) := dX12_pairs_34g.2.1
theorem dX12_pairs_38 : decode cX12_pairs 38 = .ok (.goto (-17), 3) := dX12_pairs_34g.2.2.1
theorem dX12_pairs_41 : decode cX12_pairs 41 = .ok (.iconst 0, 1) := dX12_pairs_34g.2.2.2.1
theorem dX12_pairs_42 : decode cX12_pairs 42 = .ok (.istore_n 3, 1) := dX12_pairs_34g.2.2.2.2.1
theorem dX12_pairs_43 : decode cX12_pairs 43 = .ok (.iload_n 3, 1) := dX12_pairs_34g.2.2.2.2.2.1
theorem dX12_pairs_44 : decode cX12_pairs 44 = .ok (.sipush 2304, 3) := dX12_pairs_34g.2.2.2.2.2.2.1
theorem dX12_pairs_47 : decode cX12_pairs 47 = .ok (.if_icmp .ge 31, 3) := dX12_pairs_34g.2.2.2.2.2.2.2.1
theorem dX12_pairs_50 : decode cX12_pairs 50 = .ok (.aload_n 0, 1) := dX12_pairs_34g.2.2.2.2.2.2.2.2.1
theorem dX12_pairs_51 : decode cX12_pairs 51 = .ok (.getfield 73, 3) := dX12_pairs_34g.2.2.2.2.2.2.2.2.2
theorem dX12_pairs_54g : (decode cX12_pairs 54 = .ok (.aload_n 0, 1)) ∧ (decode cX12_pairs 55 = .ok (.iload_n 3, 1)) ∧ (decode cX12_pairs 56 = .ok (.bipush 24, 2)) ∧ (decode cX12_pairs 58 = .ok (.irem, 1)) ∧ (decode cX12_pairs 59 = .ok (.iload_n 3, 1)) ∧ (decode cX12_pairs 60 = .ok (.bipush 24, 2)) ∧ (decode cX12_pairs 62 = .ok (.idiv, 1)) ∧ (decode cX12_pairs 63 = .ok (.iload_n 1, 1)) ∧ (decode cX12_pairs 64 = .ok (.invokevirtual 351, 3)) ∧ (decode cX12_pairs 67 = .ok (.dup2, 1)) := by decide +kernel
theorem dX12_pairs_54 : decode cX12_pairs 54 = .ok (.aload_n 0, 1) := dX12_pairs_54g.1
theorem dX12_pairs_55 : decode cX12_pairs 55 = .ok (.iload_n 3, 1) := dX12_pairs_54g.2.1
theorem dX12_pairs_56 : decode cX12_pairs 56 = .ok (.bipush 24, 2) := dX12_pairs_54g.2.2.1
theorem dX12_pairs_58 : decode cX12_pairs 58 = .ok (.irem, 1) := dX12_pairs_54g.2.2.2.1
theorem dX12_pairs_59 : decode cX12_pairs 59 = .ok (.iload_n 3, 1) := dX12_pairs_54g.2.2.2.2.1
theorem dX12_pairs_60 : decode cX12_pairs 60 = .ok (.bipush 24, 2) := dX12_pairs_54g.2.2.2.2.2.1
theorem dX12_pairs_62 : decode cX12_pairs 62 = .ok (.idiv, 1) := dX12_pairs_54g.2.2.2.2.2.2.1
theorem dX12_pairs_63 : decode cX12_pairs 63 = .ok (.iload_n 1, 1) := dX12_pairs_54g.2.2.2.2.2.2.2.1
theorem dX12_pairs_64 : decode cX12_pairs 64 = .ok (.invokevirtual 351, 3) := dX12_pairs_54g.2.2.2.2.2.2.2.2.1
theorem dX12_pairs_67 : decode cX12_pairs 67 = .ok (.dup2, 1) := dX12_pairs_54g.2.2.2.2.2.2.2.2.2
theorem dX12_pairs_68g : (decode cX12_pairs 68 = .ok (.iaload, 1)) ∧ (decode cX12_pairs 69 = .ok (.iconst 1, 1)) ∧ (decode cX12_pairs 70 = .ok (.iadd, 1)) ∧ (decode cX12_pairs 71 = .ok (.iastore, 1)) ∧ (decode cX12_pairs 72 = .ok (.iinc 3 1, 3)) ∧ (decode cX12_pairs 75 = .ok (.goto (-32), 3)) ∧ (decode cX12_pairs 78 = .ok (.aload_n 0, 1)) ∧ (decode cX12_pairs 79 = .ok (.getfield 73, 3)) ∧ (decode cX12_pairs 82 = .ok (.iload_n 2, 1)) ∧ (decode cX12_pairs 83 = .ok (.iaload, 1)) := by decide +kernel
theorem dX12_pairs_68 : decode cX12_pairs 68 = .ok (.iaload, 1) := dX12_pairs_68g.1
theorem dX12_pairs_69 : decode cX12_pairs 69 = .ok (.iconst 1, 1) := dX12_pairs_68g.2.1
theorem dX12_pairs_70 : decode cX12_pairs 70 = .ok (.iadd, 1) := dX12_pairs_68g.2.2.1
theorem dX12_pairs_71 : decode cX12_pairs 71 = .ok (.iastore, 1) := dX12_pairs_68g.2.2.2.1
theorem dX12_pairs_72 : decode cX12_pairs 72 = .ok (.iinc 3 1, 3) := dX12_pairs_68g.2.2.2.2.1
theorem dX12_pairs_75 : decode cX12_pairs 75 = .ok (.goto (-32), 3) := dX12_pairs_68g.2.2.2.2.2.1
theorem dX12_pairs_78 : decode cX12_pairs 78 = .ok (.aload_n 0, 1) := dX12_pairs_68g.2.2.2.2.2.2.1
theorem dX12_pairs_79 : decode cX12_pairs 79 = .ok (.getfield 73, 3) := dX12_pairs_68g.2.2.2.2.2.2.2.1
theorem dX12_pairs_82 : decode cX12_pairs 82 = .ok (.iload_n 2, 1) := dX12_pairs_68g.2.2.2.2.2.2.2.2.1
theorem dX12_pairs_83 : decode cX12_pairs 83 = .ok (.iaload, 1) := dX12_pairs_68g.2.2.2.2.2.2.2.2.2
theorem dX12_pairs_84g : (decode cX12_pairs 84 = .ok (.aload_n 0, 1)) ∧ (decode cX12_pairs 85 = .ok (.getfield 73, 3)) ∧ (decode cX12_pairs 88 = .ok (.iload_n 2, 1)) ∧ (decode cX12_pairs 89 = .ok (.iaload, 1)) ∧ (decode cX12_pairs 90 = .ok (.iconst 1, 1)) ∧ (decode cX12_pairs 91 = .ok (.isub, 1)) ∧ (decode cX12_pairs 92 = .ok (.imul, 1)) ∧ (decode cX12_pairs 93 = .ok (.iconst 2, 1)) ∧ (decode cX12_pairs 94 = .ok (.idiv, 1)) ∧ (decode cX12_pairs 95 = .ok (.istore_n 3, 1)) := by decide +kernel
theorem dX12_pairs_84 : decode cX12_pairs 84 = .ok (.aload_n 0, 1) := dX12_pairs_84g.1
theorem dX12_pairs_85 : decode cX12_pairs 85 = .ok (.getfield 73, 3) := dX12_pairs_84g.2.1
theorem dX12_pairs_88 : decode cX12_pairs 88 = .ok (.iload_n 2, 1) := dX12_pairs_84g.2.2.1
theorem dX12_pairs_89 : decode cX12_pairs 89 = .ok (.iaload, 1) := dX12_pairs_84g.2.2.2.1
theorem dX12_pairs_90 : decode cX12_pairs 90 = .ok (.iconst 1, 1) := dX12_pairs_84g.2.2.2.2.1
theorem dX12_pairs_91 : decode cX12_pairs 91 = .ok (.isub, 1) := dX12_pairs_84g.2.2.2.2.2.1
theorem dX12_pairs_92 : decode cX12_pairs 92 = .ok (.imul, 1) := dX12_pairs_84g.2.2.2.2.2.2.1
theorem dX12_pairs_93 : decode cX12_pairs 93 = .ok (.iconst 2, 1) := dX12_pairs_84g.2.2.2.2.2.2.2.1
theorem dX12_pairs_94 : decode cX12_pairs 94 = .ok (.idiv, 1) := dX12_pairs_84g.2.2.2.2.2.2.2.2.1
theorem dX12_pairs_95 : decode cX12_pairs 95 = .ok (.istore_n 3, 1) := dX12_pairs_84g.2.2.2.2.2.2.2.2.2
theorem dX12_pairs_96g : (decode cX12_pairs 96 = .ok (.iconst 0, 1)) ∧ (decode cX12_pairs 97 = .ok (.istore 4, 2)) ∧ (decode cX12_pairs 99 = .ok (.iload 4, 2)) ∧ (decode cX12_pairs 101 = .ok (.sipush 1024, 3)) ∧ (decode cX12_pairs 104 = .ok (.if_icmp .ge 70, 3)) ∧ (decode cX12_pairs 107 = .ok (.iload 4, 2)) ∧ (decode cX12_pairs 109 = .ok (.iconst 1, 1)) ∧ (decode cX12_pairs 110 = .ok (.iadd, 1)) ∧ (decode cX12_pairs 111 = .ok (.istore 5, 2)) ∧ (decode cX12_pairs 113 = .ok (.iload 5, 2)) := by decide +kernel
theorem dX12_pairs_96 : decode cX12_pairs 96 = .ok (.iconst 0, 1) := dX12_pairs_96g.1
theorem dX12_pairs_97 : decode cX12_pairs 97 = .ok (.istore 4, 2) := dX12_pairs_96g.2.1
theorem dX12_pairs_99 : decode cX12_pairs 99 = .ok (.iload 4, 2) := dX12_pairs_96g.2.2.1
theorem dX12_pairs_101 : decode cX12_pairs 101 = .ok (.sipush 1024, 3) := dX12_pairs_96g.2.2.2.1
theorem dX12_pairs_104 : decode cX12_pairs 104 = .ok (.if_icmp .ge 70, 3) := dX12_pairs_96g.2.2.2.2.1
theorem dX12_pairs_107 : decode cX12_pairs 107 = .ok (.iload 4, 2) := dX12_pairs_96g.2.2.2.2.2.1
theorem dX12_pairs_109 : decode cX12_pairs 109 = .ok (.iconst 1, 1) := dX12_pairs_96g.2.2.2.2.2.2.1
theorem dX12_pairs_110 : decode cX12_pairs 110 = .ok (.iadd, 1) := dX12_pairs_96g.2.2.2.2.2.2.2.1
theorem dX12_pairs_111 : decode cX12_pairs 111 = .ok (.istore 5, 2) := dX12_pairs_96g.2.2.2.2.2.2.2.2.1
theorem dX12_pairs_113 : decode cX12_pairs 113 = .ok (.iload 5, 2) := dX12_pairs_96g.2.2.2.2.2.2.2.2.2
theorem dX12_pairs_115g : (decode cX12_pairs 115 = .ok (.sipush 1024, 3)) ∧ (decode cX12_pairs 118 = .ok (.if_icmp .ge 50, 3)) ∧ (decode cX12_pairs 121 = .ok (.aload_n 0, 1)) ∧ (decode cX12_pairs 122 = .ok (.getfield 73, 3)) ∧ (decode cX12_pairs 125 = .ok (.iload 4, 2)) ∧ (decode cX12_pairs 127 = .ok (.iaload, 1)) ∧ (decode cX12_pairs 128 = .ok (.ifCond .le 40, 3)) ∧ (decode cX12_pairs 131 = .ok (.iload_n 3, 1)) ∧ (decode cX12_pairs 132 = .ok (.iload 4, 2)) ∧ (decode cX12_pairs 134 = .ok (.iload 5, 2)) := by decide +kernel
theorem dX12_pairs_115 : decode cX12_pairs 115 = .ok (.sipush 1024, 3) := dX12_pairs_115g.1
theorem dX12_pairs_118 : decode cX12_pairs 118 = .ok (.if_icmp .ge 50, 3) := dX12_pairs_115g.2.1
theorem dX12_pairs_121 : decode cX12_pairs 121 = .ok (.aload_n 0, 1) := dX12_pairs_115g.2.2.1
theorem dX12_pairs_122 : decode cX12_pairs 122 = .ok (.getfield 73, 3) := dX12_pairs_115g.2.2.2.1
theorem dX12_pairs_125 : decode cX12_pairs 125 = .ok (.iload 4, 2) := dX12_pairs_115g.2.2.2.2.1
theorem dX12_pairs_127 : decode cX12_pairs 127 = .ok (.iaload, 1) := dX12_pairs_115g.2.2.2.2.2.1
theorem dX12_pairs_128 : decode cX12_pairs 128 = .ok (.ifCond .le 40, 3) := dX12_pairs_115g.2.2.2.2.2.2.1
theorem dX12_pairs_131 : decode cX12_pairs 131 = .ok (.iload_n 3, 1) := dX12_pairs_115g.2.2.2.2.2.2.2.1
theorem dX12_pairs_132 : decode cX12_pairs 132 = .ok (.iload 4, 2) := dX12_pairs_115g.2.2.2.2.2.2.2.2.1
theorem dX12_pairs_134 : decode cX12_pairs 134 = .ok (.iload 5, 2) := dX12_pairs_115g.2.2.2.2.2.2.2.2.2
theorem dX12_pairs_136g : (decode cX12_pairs 136 = .ok (.ior, 1)) ∧ (decode cX12_pairs 137 = .ok (.iload_n 2, 1)) ∧ (decode cX12_pairs 138 = .ok (.if_icmp .ne 21, 3)) ∧ (decode cX12_pairs 141 = .ok (.aload_n 0, 1)) ∧ (decode cX12_pairs 142 = .ok (.getfield 73, 3)) ∧ (decode cX12_pairs 145 = .ok (.iload 4, 2)) ∧ (decode cX12_pairs 147 = .ok (.iaload, 1)) ∧ (decode cX12_pairs 148 = .ok (.aload_n 0, 1)) ∧ (decode cX12_pairs 149 = .ok (.getfield 73, 3)) ∧ (decode cX12_pairs 152 = .ok (.iload 5, 2)) := by decide +kernel
theorem dX12_pairs_136 : decode cX12_pairs 136 = .ok (.ior, 1) := dX12_pairs_136g.1
theorem dX12_pairs_137 : decode cX12_pairs 137 = .ok (.iload_n 2, 1) := dX12_pairs_136g.2.1
theorem dX12_pairs_138 : decode cX12_pairs 138 = .ok (.if_icmp .ne 21, 3) := dX12_pairs_136g.2.2.1
theorem dX12_pairs_141 : decode cX12_pairs 141 = .ok (.aload_n 0, 1) := dX12_pairs_136g.2.2.2.1
theorem dX12_pairs_142 : decode cX12_pairs 142 = .ok (.getfield 73, 3) := dX12_pairs_136g.2.2.2.2.1
theorem dX12_pairs_145 : decode cX12_pairs 145 = .ok (.iload 4, 2) := dX12_pairs_136g.2.2.2.2.2.1
theorem dX12_pairs_147 : decode cX12_pairs 147 = .ok (.iaload, 1) := dX12_pairs_136g.2.2.2.2.2.2.1
theorem dX12_pairs_148 : decode cX12_pairs 148 = .ok (.aload_n 0, 1) := dX12_pairs_136g.2.2.2.2.2.2.2.1
theorem dX12_pairs_149 : decode cX12_pairs 149 = .ok (.getfield 73, 3) := dX12_pairs_136g.2.2.2.2.2.2.2.2.1
theorem dX12_pairs_152 : decode cX12_pairs 152 = .ok (.iload 5, 2) := dX12_pairs_136g.2.2.2.2.2.2.2.2.2
theorem dX12_pairs_154g : (decode cX12_pairs 154 = .ok (.iaload, 1)) ∧ (decode cX12_pairs 155 = .ok (.imul, 1)) ∧ (decode cX12_pairs 156 = .ok (.goto 4, 3)) ∧ (decode cX12_pairs 159 = .ok (.iconst 0, 1)) ∧ (decode cX12_pairs 160 = .ok (.iadd, 1)) ∧ (decode cX12_pairs 161 = .ok (.istore_n 3, 1)) ∧ (decode cX12_pairs 162 = .ok (.iinc 5 1, 3)) ∧ (decode cX12_pairs 165 = .ok (.goto (-52), 3)) ∧ (decode cX12_pairs 168 = .ok (.iinc 4 1, 3)) ∧ (decode cX12_pairs 171 = .ok (.goto (-72), 3)) := by decide +kernel
theorem dX12_pairs_154 : decode cX12_pairs 154 = .ok (.iaload, 1) := dX12_pairs_154g.1
theorem dX12_pairs_155 : decode cX12_pairs 155 = .ok (.imul, 1) := dX12_pairs_154g.2.1
theorem dX12_pairs_156 : decode cX12_pairs 156 = .ok (.goto 4, 3) := dX12_pairs_154g.2.2.1
theorem dX12_pairs_159 : decode cX12_pairs 159 = .ok (.iconst 0, 1) := dX12_pairs_154g.2.2.2.1
theorem dX12_pairs_160 : decode cX12_pairs 160 = .ok (.iadd, 1) := dX12_pairs_154g.2.2.2.2.1
theorem dX12_pairs_161 : decode cX12_pairs 161 = .ok (.istore_n 3, 1) := dX12_pairs_154g.2.2.2.2.2.1
theorem dX12_pairs_162 : decode cX12_pairs 162 = .ok (.iinc 5 1, 3) := dX12_pairs_154g.2.2.2.2.2.2.1
theorem dX12_pairs_165 : decode cX12_pairs 165 = .ok (.goto (-52), 3) := dX12_pairs_154g.2.2.2.2.2.2.2.1
theorem dX12_pairs_168 : decode cX12_pairs 168 = .ok (.iinc 4 1, 3) := dX12_pairs_154g.2.2.2.2.2.2.2.2.1
theorem dX12_pairs_171 : decode cX12_pairs 171 = .ok (.goto (-72), 3) := dX12_pairs_154g.2.2.2.2.2.2.2.2.2
theorem dX12_pairs_174g : (decode cX12_pairs 174 = .ok (.iload_n 3, 1)) ∧ (decode cX12_pairs 175 = .ok (.ireturn, 1)) := by decide +kernel
theorem dX12_pairs_174 : decode cX12_pairs 174 = .ok (.iload_n 3, 1) := dX12_pairs_174g.1
theorem dX12_pairs_175 : decode cX12_pairs 175 = .ok (.ireturn, 1) := dX12_pairs_174g.2
set_option maxHeartbeats 4000000 in
set_option maxRecDepth 100000 in
theorem c_X12_pairs (l : Launch) (E : Nat → Nat) (D : va_G) (G : th_G) (h0 : Nat) (hG0 : G h0 = some (10, 0)) (x1 : Int32) : Met l yX12_pairs (tb (.code yX12_pairs cX12_pairs 6 (some .int))) (rm 69) (va_Pc [.ref h0, .int x1] (PX E D G (fun H => True))) (QXi E D G (fun r H => True)) 0 0 (th_A G) := by
  refine Met.ofW (cc := cX12_pairs) (maxL := 6) (ret := (some .int)) (by decide) rfl ?_
  intro p e s m args below meth c s₁ B hml hv
  obtain ⟨hav, ⟨hI, hN, hK⟩, hX⟩ := hv
  have hx := B.exec
  have hb := B.bytes
  have hr := B.returns
  have hts := atoms_spec (ws := tb (.code yX12_pairs cX12_pairs 6 (some .int))) B.pre
  have hown : s.vm.findClass RX12 = some m.cls := findClass_of_methodNamed B.named
  have hlocks := B.notSynchronized
  have hS : va_S (th_A G) s.heap s.heap [] := va_S.rf
  have hl := lv_entry ([.ref h0, .int x1]) (n := 6) (Nat.le_of_ble_eq_true rfl)
  rw [show entryFrame m args 6 = entryFrame m ([.ref h0, .int x1] : List Value).toArray 6 from by rw [hav], lg_entry_eq]
  generalize (lg_sl ([.ref h0, .int x1]) ++ List.replicate (6 - (lg_sl ([.ref h0, .int x1])).length) Slot.unset).toArray = ls at hl ⊢
  have hl : lv_has ls 6 [(0, .ref h0), (1, .int x1)] := hl
  generalize hR : (headSpec (tb (.code yX12_pairs cX12_pairs 6 (some .int))) (rm 69)).room = R
  have hR := hR.symm
  generalize hQ : MQ below (QXi E D G (fun r H => True)) args s 0 0 (th_A G) = QF
  have hQ := hQ.symm
  have J_99 : ∀ (nn : Nat) (H : Heap) (locs : List Loc) (ls : Array Slot) (v2513 : Int32) (v2514 : Int32) (v2515 : Int32) , (Int.toNat (1024 - v2513.toInt) = nn) → lv_has ls 6 [(4, .int v2513), (3, .int v2514), (2, .int v2515), (0, .ref h0), (1, .int x1)] → ((0 : Int) ≤ v2513.toInt ∧ v2513.toInt ≤ 1024) → ((0 : Int) ≤ v2515.toInt ∧ v2515.toInt ≤ 1023) → ((0 : Int) ≤ x1.toInt ∧ x1.toInt ≤ 3) → th_I (okM E) D G [] H → va_S (th_A G) s.heap H locs → W p l e R s m args below meth c H locs 0 0 QF (F0 m 99 ls []) := by
    intro nn
    induction nn using Nat.strongRecOn with
    | ind nn ih_99 =>
      intro H locs ls v2513 v2514 v2515  hm hl k2516 k2517 k2518 hI hS
      have J_113 : ∀ (nn : Nat) (H : Heap) (locs : List Loc) (ls : Array Slot) (v2519 : Int32) (v2521 : Int32) , (Int.toNat (1024 - v2519.toInt) = nn) → lv_has ls 6 [(5, .int v2519), (4, .int v2513), (3, .int v2521), (2, .int v2515), (0, .ref h0), (1, .int x1)] → ((1 : Int) ≤ v2519.toInt ∧ v2519.toInt ≤ 1024) → ((0 : Int) ≤ v2513.toInt ∧ v2513.toInt ≤ 1023) → th_I (okM E) D G [] H → va_S (th_A G) s.heap H locs → W p l e R s m args below meth c H locs 0 0 QF (F0 m 113 ls []) := by
        intro nn
        induction nn using Nat.strongRecOn with
        | ind nn ih_113 =>
          intro H locs ls v2519 v2521  hm hl k2523 k2524 hI hS
          refine lv_iload hx hb dX12_pairs_113 (lv_at hl 0 rfl) ?_
          refine lv_sipush (v := 1024) hx hb dX12_pairs_115 (by decide) ?_
          refine lv_icmp_ge (tgt := 168) hx hb dX12_pairs_118 (by decide) (fun c2525 => ?_) (fun c2525 => ?_)
          · skip
            have k2526 := iv_le (X := (1024)) (Y := v2519.toInt) (by decide) rfl c2525
            obtain ⟨v2527, e2528⟩ : ∃ y : Int32, y = v2513 + (1) := ⟨_, rfl⟩
            have tv2527 : v2527.toInt = v2513.toInt + (1) := iv_add rfl (by decide) e2528 (by omega) (by omega)
            refine lv_iinc (v := v2527) (lv' := [(4, .int v2527), (5, .int v2519), (3, .int v2521), (2, .int v2515), (0, .ref h0), (1, .int x1)]) hx hb dX12_pairs_168 hl (k := 1) rfl (by rw [e2528]; rfl) (by decide) rfl (fun ls hl => ?_)
            refine lv_goto (tgt := 99) hx hb dX12_pairs_171 (by decide) ?_
            exact ih_99 _ (by omega) H locs ls v2527 v2521 v2515  rfl (lv_sub hl [0, 2, 3, 4, 5] rfl) ⟨by omega, by omega⟩ ⟨by omega, by omega⟩ ⟨by omega, by omega⟩ hI hS
          · skip
            have k2529 := iv_nle (X := (1024)) (Y := v2519.toInt) (by decide) rfl c2525
            refine lv_aload_n hx hb dX12_pairs_121 rfl (lv_at hl 4 rfl) ?_
            refine gmA hx hb hts inT12 hown hK hI List.not_mem_nil hG0 34 (by decide) (hts _ (tb_c wd_1267)) rfl rfl dX12_pairs_122 (fun a2530 hq2531 hf2532 => ?_)
            refine lv_iload hx hb dX12_pairs_125 (lv_at hl 1 rfl) ?_
            obtain ⟨F2533, hA2534⟩ := om_0 hI hq2531 List.not_mem_nil
            refine th_iald hx hb hK hA2534 0 rfl (iv_in (X := v2513.toInt) rfl (by omega) (by omega)) dX12_pairs_127 (fun v2535 e2536 => ?_)
            have k2537 := iv_lo v2535
            have k2538 := iv_hi v2535
            refine lv_if_le (tgt := 168) hx hb dX12_pairs_128 (by decide) (fun c2539 => ?_) (fun c2539 => ?_)
            · skip
              have k2540 := iv_le (X := v2535.toInt) (Y := (0)) rfl (by decide) c2539
              obtain ⟨v2541, e2542⟩ : ∃ y : Int32, y = v2513 + (1) := ⟨_, rfl⟩
              have tv2541 : v2541.toInt = v2513.toInt + (1) := iv_add rfl (by decide) e2542 (by omega) (by omega)
              refine lv_iinc (v := v2541) (lv' := [(4, .int v2541), (5, .int v2519), (3, .int v2521), (2, .int v2515), (0, .ref h0), (1, .int x1)]) hx hb dX12_pairs_168 hl (k := 1) rfl (by rw [e2542]; rfl) (by decide) rfl (fun ls hl => ?_)
              refine lv_goto (tgt := 99) hx hb dX12_pairs_171 (by decide) ?_
              exact ih_99 _ (by omega) H locs ls v2541 v2521 v2515  rfl (lv_sub hl [0, 2, 3, 4, 5] rfl) ⟨by omega, by omega⟩ ⟨by omega, by omega⟩ ⟨by omega, by omega⟩ hI hS
            · skip
              have k2543 := iv_nle (X := v2535.toInt) (Y := (0)) rfl (by decide) c2539
              refine lv_iload_n hx hb dX12_pairs_131 rfl (lv_at hl 2 rfl) ?_
              refine lv_iload hx hb dX12_pairs_132 (lv_at hl 1 rfl) ?_
              refine lv_iload hx hb dX12_pairs_134 (lv_at hl 0 rfl) ?_
              refine lv_ior hx hb dX12_pairs_136 ?_
              refine lv_topi (fun v2544 e2545 => ?_)
              have tv2544 := iv_or (X := v2513.toInt) (Y := v2519.toInt) rfl rfl e2545 (by omega) (by omega) (by omega) (by omega)
              refine lv_iload_n hx hb dX12_pairs_137 rfl (lv_at hl 3 rfl) ?_
              refine lv_icmp_ne (tgt := 159) hx hb dX12_pairs_138 (by decide) (fun c2546 => ?_) (fun c2546 => ?_)
              · skip
                have k2547 := iv_ne (X := v2544.toInt) (Y := v2515.toInt) rfl rfl c2546
                refine lv_iconst (v := 0) hx hb dX12_pairs_159 (by decide) ?_
                refine lv_iadd hx hb dX12_pairs_160 ?_
                refine lv_topi (fun v2548 e2549 => ?_)
                have k2550 := iv_lo v2521
                have k2551 := iv_hi v2521
                have tv2548 : v2548.toInt = v2521.toInt + (0) := iv_add rfl (by decide) e2549 (by omega) (by omega)
                refine lv_istore_n (lv' := [(3, .int v2548), (5, .int v2519), (4, .int v2513), (2, .int v2515), (0, .ref h0), (1, .int x1)]) hx hb dX12_pairs_161 rfl hl (by decide) rfl (fun ls hl => ?_)
                obtain ⟨v2552, e2553⟩ : ∃ y : Int32, y = v2519 + (1) := ⟨_, rfl⟩
                have tv2552 : v2552.toInt = v2519.toInt + (1) := iv_add rfl (by decide) e2553 (by omega) (by omega)
                refine lv_iinc (v := v2552) (lv' := [(5, .int v2552), (3, .int v2548), (4, .int v2513), (2, .int v2515), (0, .ref h0), (1, .int x1)]) hx hb dX12_pairs_162 hl (k := 1) rfl (by rw [e2553]; rfl) (by decide) rfl (fun ls hl => ?_)
                refine lv_goto (tgt := 113) hx hb dX12_pairs_165 (by decide) ?_
                exact ih_113 _ (by omega) H locs ls v2552 v2548  rfl (lv_sub hl [0, 2, 1, 3, 4, 5] rfl) ⟨by omega, by omega⟩ ⟨by omega, by omega⟩ hI hS
              · skip
                have k2554 := iv_eq (X := v2544.toInt) (Y := v2515.toInt) rfl rfl c2546
                refine lv_aload_n hx hb dX12_pairs_141 rfl (lv_at hl 4 rfl) ?_
                refine gmA hx hb hts inT12 hown hK hI List.not_mem_nil hG0 34 (by decide) (hts _ (tb_c wd_1267)) rfl rfl dX12_pairs_142 (fun a2555 hq2556 hf2557 => ?_)
                obtain rfl := fr.uniq (by decide) hf2532 hf2557
                refine lv_iload hx hb dX12_pairs_145 (lv_at hl 1 rfl) ?_
                refine th_iald hx hb hK hA2534 0 rfl (iv_in (X := v2513.toInt) rfl (by omega) (by omega)) dX12_pairs_147 (fun v2558 e2559 => ?_)
                obtain rfl := (rd_same (i := v2513) (j := v2513) e2536 e2559 (X := v2513.toInt) (Y := v2513.toInt) rfl rfl (by omega)).symm
                refine lv_aload_n hx hb dX12_pairs_148 rfl (lv_at hl 4 rfl) ?_
                refine gmA hx hb hts inT12 hown hK hI List.not_mem_nil hG0 34 (by decide) (hts _ (tb_c wd_1267)) rfl rfl dX12_pairs_149 (fun a2560 hq2561 hf2562 => ?_)
                obtain rfl := fr.uniq (by decide) hf2532 hf2562
                refine lv_iload hx hb dX12_pairs_152 (lv_at hl 0 rfl) ?_
                refine th_iald hx hb hK hA2534 0 rfl (iv_in (X := v2519.toInt) rfl (by omega) (by omega)) dX12_pairs_154 (fun v2563 e2564 => ?_)
                refine lv_imul hx hb dX12_pairs_155 ?_
                refine lv_topi (fun v2565 e2566 => ?_)
                try have tv2565 : v2565.toInt = v2535.toInt * v2563.toInt := iv_mul rfl rfl e2566 (by omega) (by omega)
                refine lv_goto (tgt := 160) hx hb dX12_pairs_156 (by decide) ?_
                refine lv_iadd hx hb dX12_pairs_160 ?_
                refine lv_topi (fun v2567 e2568 => ?_)
                try have tv2567 : v2567.toInt = v2521.toInt + v2565.toInt := iv_add rfl rfl e2568 (by omega) (by omega)
                refine lv_istore_n (lv' := [(3, .int v2567), (5, .int v2519), (4, .int v2513), (2, .int v2515), (0, .ref h0), (1, .int x1)]) hx hb dX12_pairs_161 rfl hl (by decide) rfl (fun ls hl => ?_)
                obtain ⟨v2569, e2570⟩ : ∃ y : Int32, y = v2519 + (1) := ⟨_, rfl⟩
                have tv2569 : v2569.toInt = v2519.toInt + (1) := iv_add rfl (by decide) e2570 (by omega) (by omega)
                refine lv_iinc (v := v2569) (lv' := [(5, .int v2569), (3, .int v2567), (4, .int v2513), (2, .int v2515), (0, .ref h0), (1, .int x1)]) hx hb dX12_pairs_162 hl (k := 1) rfl (by rw [e2570]; rfl) (by decide) rfl (fun ls hl => ?_)
                refine lv_goto (tgt := 113) hx hb dX12_pairs_165 (by decide) ?_
                exact ih_113 _ (by omega) H locs ls v2569 v2567  rfl (lv_sub hl [0, 2, 1, 3, 4, 5] rfl) ⟨by omega, by omega⟩ ⟨by omega, by omega⟩ hI hS
      refine lv_iload hx hb dX12_pairs_99 (lv_at hl 0 rfl) ?_
      refine lv_sipush (v := 1024) hx hb dX12_pairs_101 (by decide) ?_
      refine lv_icmp_ge (tgt := 174) hx hb dX12_pairs_104 (by decide) (fun c2571 => ?_) (fun c2571 => ?_)
      · skip
        have k2572 := iv_le (X := (1024)) (Y := v2513.toInt) (by decide) rfl c2571
        refine lv_iload_n hx hb dX12_pairs_174 rfl (lv_at hl 1 rfl) ?_
        have hpost : True := trivial
        rw [hQ]
        exact W.iret (v := v2514) hx hb hr (fun t ht hW => ⟨⟨v2514, v2514, rfl, rfl, ⟨by rw [ht]; exact hI, hN.warm hW, va_K.moved hW.alike hK⟩, by first | (rw [ht]; exact hpost) | exact hpost⟩, hS.F ht⟩) hS.2.2 dX12_pairs_175
      · skip
        have k2573 := iv_nle (X := (1024)) (Y := v2513.toInt) (by decide) rfl c2571
        refine lv_iload hx hb dX12_pairs_107 (lv_at hl 0 rfl) ?_
        refine lv_iconst (v := 1) hx hb dX12_pairs_109 (by decide) ?_
        refine lv_iadd hx hb dX12_pairs_110 ?_
        refine lv_topi (fun v2574 e2575 => ?_)
        have tv2574 : v2574.toInt = v2513.toInt + (1) := iv_add rfl (by decide) e2575 (by omega) (by omega)
        refine lv_istore (lv' := [(5, .int v2574), (4, .int v2513), (3, .int v2514), (2, .int v2515), (0, .ref h0), (1, .int x1)]) hx hb dX12_pairs_111 hl (by decide) rfl (fun ls hl => ?_)
        exact J_113 _ H locs ls v2574 v2514  rfl (lv_sub hl [0, 1, 2, 3, 4, 5] rfl) ⟨by omega, by omega⟩ ⟨by omega, by omega⟩ hI hS
  have J_43 : ∀ (nn : Nat) (H : Heap) (locs : List Loc) (ls : Array Slot) (v2576 : Int32) (v2577 : Int32) , (Int.toNat (2304 - v2576.toInt) = nn) → lv_has ls 6 [(3, .int v2576), (2, .int v2577), (0, .ref h0), (1, .int x1)] → ((0 : Int) ≤ v2576.toInt ∧ v2576.toInt ≤ 2304) → ((0 : Int) ≤ v2577.toInt ∧ v2577.toInt ≤ 1023) → ((0 : Int) ≤ x1.toInt ∧ x1.toInt ≤ 3) → th_I (okM E) D G [] H → va_S (th_A G) s.heap H locs → W p l e R s m args below meth c H locs 0 0 QF (F0 m 43 ls []) := by
    intro nn
    induction nn using Nat.strongRecOn with
    | ind nn ih_43 =>
      intro H locs ls v2576 v2577  hm hl k2578 k2579 k2580 hI hS
      refine lv_iload_n hx hb dX12_pairs_43 rfl (lv_at hl 0 rfl) ?_
      refine lv_sipush (v := 2304) hx hb dX12_pairs_44 (by decide) ?_
      refine lv_icmp_ge (tgt := 78) hx hb dX12_pairs_47 (by decide) (fun c2581 => ?_) (fun c2581 => ?_)
      · skip
        have k2582 := iv_le (X := (2304)) (Y := v2576.toInt) (by decide) rfl c2581
        refine lv_aload_n hx hb dX12_pairs_78 rfl (lv_at hl 2 rfl) ?_
        refine gmA hx hb hts inT12 hown hK hI List.not_mem_nil hG0 34 (by decide) (hts _ (tb_c wd_1267)) rfl rfl dX12_pairs_79 (fun a2583 hq2584 hf2585 => ?_)
        refine lv_iload_n hx hb dX12_pairs_82 rfl (lv_at hl 1 rfl) ?_
        obtain ⟨F2586, hA2587⟩ := om_0 hI hq2584 List.not_mem_nil
        refine th_iald hx hb hK hA2587 0 rfl (iv_in (X := v2577.toInt) rfl (by omega) (by omega)) dX12_pairs_83 (fun v2588 e2589 => ?_)
        refine lv_aload_n hx hb dX12_pairs_84 rfl (lv_at hl 2 rfl) ?_
        refine gmA hx hb hts inT12 hown hK hI List.not_mem_nil hG0 34 (by decide) (hts _ (tb_c wd_1267)) rfl rfl dX12_pairs_85 (fun a2590 hq2591 hf2592 => ?_)
        obtain rfl := fr.uniq (by decide) hf2585 hf2592
        refine lv_iload_n hx hb dX12_pairs_88 rfl (lv_at hl 1 rfl) ?_
        refine th_iald hx hb hK hA2587 0 rfl (iv_in (X := v2577.toInt) rfl (by omega) (by omega)) dX12_pairs_89 (fun v2593 e2594 => ?_)
        obtain rfl := (rd_same (i := v2577) (j := v2577) e2589 e2594 (X := v2577.toInt) (Y := v2577.toInt) rfl rfl (by omega)).symm
        refine lv_iconst (v := 1) hx hb dX12_pairs_90 (by decide) ?_
        refine lv_isub hx hb dX12_pairs_91 ?_
        refine lv_topi (fun v2595 e2596 => ?_)
        try have tv2595 : v2595.toInt = v2588.toInt - (1) := iv_sub rfl (by decide) e2596 (by omega) (by omega)
        refine lv_imul hx hb dX12_pairs_92 ?_
        refine lv_topi (fun v2597 e2598 => ?_)
        try have tv2597 : v2597.toInt = v2588.toInt * v2595.toInt := iv_mul rfl rfl e2598 (by omega) (by omega)
        refine lv_iconst (v := 2) hx hb dX12_pairs_93 (by decide) ?_
        refine lv_idiv hx hb dX12_pairs_94 (by decide) ?_
        refine lv_topi (fun v2599 e2600 => ?_)
        refine lv_istore_n (lv' := [(3, .int v2599), (2, .int v2577), (0, .ref h0), (1, .int x1)]) hx hb dX12_pairs_95 rfl hl (by decide) rfl (fun ls hl => ?_)
        refine lv_iconst (v := 0) hx hb dX12_pairs_96 (by decide) ?_
        refine lv_istore (lv' := [(4, .int 0), (3, .int v2599), (2, .int v2577), (0, .ref h0), (1, .int x1)]) hx hb dX12_pairs_97 hl (by decide) rfl (fun ls hl => ?_)
        have zl : (0 : Int32).toInt = 0 := by decide
        exact J_99 _ H locs ls 0 v2599 v2577  rfl (lv_sub hl [0, 1, 2, 3, 4] rfl) ⟨by decide, by decide⟩ ⟨by omega, by omega⟩ ⟨by omega, by omega⟩ hI hS
      · skip
        have k2601 := iv_nle (X := (2304)) (Y := v2576.toInt) (by decide) rfl c2581
        refine lv_aload_n hx hb dX12_pairs_50 rfl (lv_at hl 2 rfl) ?_
        refine gmA hx hb hts inT12 hown hK hI List.not_mem_nil hG0 34 (by decide) (hts _ (tb_c wd_1267)) rfl rfl dX12_pairs_51 (fun a2602 hq2603 hf2604 => ?_)
        refine lv_aload_n hx hb dX12_pairs_54 rfl (lv_at hl 2 rfl) ?_
        refine lv_iload_n hx hb dX12_pairs_55 rfl (lv_at hl 0 rfl) ?_
        refine lv_bipush (v := 24) hx hb dX12_pairs_56 (by decide) ?_
        refine lv_irem hx hb dX12_pairs_58 (by decide) ?_
        refine lv_topi (fun v2605 e2606 => ?_)
        have tv2605 := iv_remp (X := v2576.toInt) (Y := 24) rfl (by decide) e2606 (by decide) (by omega)
        refine lv_iload_n hx hb dX12_pairs_59 rfl (lv_at hl 0 rfl) ?_
        refine lv_bipush (v := 24) hx hb dX12_pairs_60 (by decide) ?_
        refine lv_idiv hx hb dX12_pairs_62 (by decide) ?_
        refine lv_topi (fun v2607 e2608 => ?_)
        have tv2607 := iv_divp (X := v2576.toInt) (Y := 24) rfl (by decide) e2608 (by decide) (by omega)
        refine lv_iload_n hx hb dX12_pairs_63 rfl (lv_at hl 3 rfl) ?_
        refine mr_i (As := [.int v2605, .int v2607, .int x1]) (rest := [.ref a2602]) (n := 3) (d := 0) ⟨hx, hb, hml, hown, hts⟩ (c_X12_seenBy l E D G H h0 hG0 v2605 v2607 x1 ⟨by omega, by omega⟩ (by omega)) wd_1765 wd_1767 wp_87 wd_13 wd_1768 (by decide +kernel) ⟨by rw [hR]; exact Nat.le_of_ble_eq_true rfl, by rw [hR]; exact Nat.le_of_ble_eq_true rfl⟩ hI hN hK hS hG0 rfl hl.1 rfl (Nat.le_of_ble_eq_true rfl) dX12_pairs_64 ⟨Nat.zero_le _, Nat.zero_le _⟩ (fun r2609 locs hp hS => ?_)
        have hp2610 := hp
        refine lv_dup2_11 hx hb dX12_pairs_67 rfl rfl ?_
        obtain ⟨F2611, hA2612⟩ := om_0 hI hq2603 List.not_mem_nil
        refine th_iald hx hb hK hA2612 0 rfl (iv_in (X := r2609.toInt) rfl (by omega) (by omega)) dX12_pairs_68 (fun v2613 e2614 => ?_)
        refine lv_iconst (v := 1) hx hb dX12_pairs_69 (by decide) ?_
        refine lv_iadd hx hb dX12_pairs_70 ?_
        refine lv_topi (fun v2615 e2616 => ?_)
        try have tv2615 : v2615.toInt = v2613.toInt + (1) := iv_add rfl (by decide) e2616 (by omega) (by omega)
        refine th_iast hx hb hK hA2612 0 rfl hS ⟨_, hq2603⟩ (iv_in (X := r2609.toInt) rfl (by omega) (by omega)) dX12_pairs_71 (fun H locs hA2617 oq hS => ?_)
        have hI := th_I.put hI hq2603 hA2617 ok_m0 oq
        have hf2604 := fr.arr hG0 hq2603 (by decide) oq hf2604
        have e2618 : v2615 = (upd F2611 (r2609 : Int32).toNatClampNeg v2615) (r2609 : Int32).toNatClampNeg := rd_us
        obtain ⟨v2619, e2620⟩ : ∃ y : Int32, y = v2576 + (1) := ⟨_, rfl⟩
        have tv2619 : v2619.toInt = v2576.toInt + (1) := iv_add rfl (by decide) e2620 (by omega) (by omega)
        refine lv_iinc (v := v2619) (lv' := [(3, .int v2619), (2, .int v2577), (0, .ref h0), (1, .int x1)]) hx hb dX12_pairs_72 hl (k := 0) rfl (by rw [e2620]; rfl) (by decide) rfl (fun ls hl => ?_)
        refine lv_goto (tgt := 43) hx hb dX12_pairs_75 (by decide) ?_
        exact ih_43 _ (by omega) H locs ls v2619 v2577  rfl (lv_sub hl [0, 1, 2, 3] rfl) ⟨by omega, by omega⟩ ⟨by omega, by omega⟩ ⟨by omega, by omega⟩ hI hS
  have J_21 : ∀ (nn : Nat) (H : Heap) (locs : List Loc) (ls : Array Slot) (v2621 : Int32) (v2622 : Int32) , (Int.toNat (1024 - v2621.toInt) = nn) → lv_has ls 6 [(3, .int v2621), (2, .int v2622), (0, .ref h0), (1, .int x1)] → ((0 : Int) ≤ v2621.toInt ∧ v2621.toInt ≤ 1024) → ((0 : Int) ≤ v2622.toInt ∧ v2622.toInt ≤ 1023) → ((0 : Int) ≤ x1.toInt ∧ x1.toInt ≤ 3) → th_I (okM E) D G [] H → va_S (th_A G) s.heap H locs → W p l e R s m args below meth c H locs 0 0 QF (F0 m 21 ls []) := by
    intro nn
    induction nn using Nat.strongRecOn with
    | ind nn ih_21 =>
      intro H locs ls v2621 v2622  hm hl k2623 k2624 k2625 hI hS
      refine lv_iload_n hx hb dX12_pairs_21 rfl (lv_at hl 0 rfl) ?_
      refine lv_sipush (v := 1024) hx hb dX12_pairs_22 (by decide) ?_
      refine lv_icmp_ge (tgt := 41) hx hb dX12_pairs_25 (by decide) (fun c2626 => ?_) (fun c2626 => ?_)
      · skip
        have k2627 := iv_le (X := (1024)) (Y := v2621.toInt) (by decide) rfl c2626
        refine lv_iconst (v := 0) hx hb dX12_pairs_41 (by decide) ?_
        refine lv_istore_n (lv' := [(3, .int 0), (2, .int v2622), (0, .ref h0), (1, .int x1)]) hx hb dX12_pairs_42 rfl hl (by decide) rfl (fun ls hl => ?_)
        have zl : (0 : Int32).toInt = 0 := by decide
        exact J_43 _ H locs ls 0 v2622  rfl (lv_sub hl [0, 1, 2, 3] rfl) ⟨by decide, by decide⟩ ⟨by omega, by omega⟩ ⟨by omega, by omega⟩ hI hS
      · skip
        have k2628 := iv_nle (X := (1024)) (Y := v2621.toInt) (by decide) rfl c2626
        refine lv_aload_n hx hb dX12_pairs_28 rfl (lv_at hl 2 rfl) ?_
        refine gmA hx hb hts inT12 hown hK hI List.not_mem_nil hG0 34 (by decide) (hts _ (tb_c wd_1267)) rfl rfl dX12_pairs_29 (fun a2629 hq2630 hf2631 => ?_)
        refine lv_iload_n hx hb dX12_pairs_32 rfl (lv_at hl 0 rfl) ?_
        refine lv_iconst (v := 0) hx hb dX12_pairs_33 (by decide) ?_
        obtain ⟨F2632, hA2633⟩ := om_0 hI hq2630 List.not_mem_nil
        refine th_iast hx hb hK hA2633 0 rfl hS ⟨_, hq2630⟩ (iv_in (X := v2621.toInt) rfl (by omega) (by omega)) dX12_pairs_34 (fun H locs hA2634 oq hS => ?_)
        have hI := th_I.put hI hq2630 hA2634 ok_m0 oq
        have hf2631 := fr.arr hG0 hq2630 (by decide) oq hf2631
        have e2635 : 0 = (upd F2632 (v2621 : Int32).toNatClampNeg 0) (v2621 : Int32).toNatClampNeg := rd_us
        obtain ⟨v2636, e2637⟩ : ∃ y : Int32, y = v2621 + (1) := ⟨_, rfl⟩
        have tv2636 : v2636.toInt = v2621.toInt + (1) := iv_add rfl (by decide) e2637 (by omega) (by omega)
        refine lv_iinc (v := v2636) (lv' := [(3, .int v2636), (2, .int v2622), (0, .ref h0), (1, .int x1)]) hx hb dX12_pairs_35 hl (k := 0) rfl (by rw [e2637]; rfl) (by decide) rfl (fun ls hl => ?_)
        refine lv_goto (tgt := 21) hx hb dX12_pairs_38 (by decide) ?_
        exact ih_21 _ (by omega) H locs ls v2636 v2622  rfl (lv_sub hl [0, 1, 2, 3] rfl) ⟨by omega, by omega⟩ ⟨by omega, by omega⟩ ⟨by omega, by omega⟩ hI hS
  refine lv_iload_n hx hb dX12_pairs_0 rfl (lv_at hl 1 rfl) ?_
  refine th_cSs (As := [.int x1]) (rest := []) (n := 1) (d := 1) ⟨hx, hb, hml, hown, hts⟩ (c_X12_isColour l s.heap x1) wd_1545 wd_1546 wd_13 wd_1547 (by decide +kernel) ⟨by rw [hR]; exact Nat.le_of_ble_eq_true rfl, by rw [hR]; exact Nat.le_of_ble_eq_true rfl⟩ hN hS rfl hl.1 rfl (Nat.le_of_ble_eq_true rfl) dX12_pairs_1 ⟨Nat.zero_le _, Nat.zero_le _⟩ (fun r2638 locs hp hS => ?_)
  rcases hp with ⟨rfl, hp⟩ | ⟨rfl, hp⟩
  · skip
    try simp only [rg, not_and, Int.not_le] at hp
    have hp2639 := hp
    refine lv_if_ne (tgt := 9) hx hb dX12_pairs_4 (by decide) (fun _ => ?_) (fun c => absurd c (by decide))
    refine lv_aload_n hx hb dX12_pairs_9 rfl (lv_at hl 0 rfl) ?_
    refine mx_v (As := []) (rest := []) (n := 0) (d := 68) ⟨hx, hb, hml, hown, hts⟩ (c_X12_looks l E D G h0 hG0 ) wd_1455 wd_1457 wp_43 wd_13 wd_1458 (by decide +kernel) ⟨by rw [hR]; exact Nat.le_of_ble_eq_true rfl, by rw [hR]; exact Nat.le_of_ble_eq_true rfl⟩ hI hN hK hS hG0 (trivial) rfl hl.1 rfl (Nat.le_of_ble_eq_true rfl) dX12_pairs_10 ⟨Nat.zero_le _, Nat.zero_le _⟩ (fun H locs hI hp hS => ?_)
    refine lv_aload_n hx hb dX12_pairs_13 rfl (lv_at hl 0 rfl) ?_
    refine lv_iload_n hx hb dX12_pairs_14 rfl (lv_at hl 1 rfl) ?_
    refine mr_i (As := [.int x1]) (rest := []) (n := 1) (d := 0) ⟨hx, hb, hml, hown, hts⟩ (c_X12_seenOf l E D G H h0 hG0 x1) wd_1761 wd_1763 wp_86 wd_13 wd_1764 (by decide +kernel) ⟨by rw [hR]; exact Nat.le_of_ble_eq_true rfl, by rw [hR]; exact Nat.le_of_ble_eq_true rfl⟩ hI hN hK hS hG0 rfl hl.1 rfl (Nat.le_of_ble_eq_true rfl) dX12_pairs_15 ⟨Nat.zero_le _, Nat.zero_le _⟩ (fun r2641 locs hp hS => ?_)
    have hp2642 := hp
    refine lv_istore_n (lv' := [(2, .int r2641), (0, .ref h0), (1, .int x1)]) hx hb dX12_pairs_18 rfl hl (by decide) rfl (fun ls hl => ?_)
    refine lv_iconst (v := 0) hx hb dX12_pairs_19 (by decide) ?_
    refine lv_istore_n (lv' := [(3, .int 0), (2, .int r2641), (0, .ref h0), (1, .int x1)]) hx hb dX12_pairs_20 rfl hl (by decide) rfl (fun ls hl => ?_)
    have zl : (0 : Int32).toInt = 0 := by decide
    exact J_21 _ H locs ls 0 r2641  rfl (lv_sub hl [0, 1, 2, 3] rfl) ⟨by decide, by decide⟩ ⟨by omega, by omega⟩ ⟨by omega, by omega⟩ hI hS
  · skip
    try simp only [rg, not_and, Int.not_le] at hp
    have hp2643 := hp
    refine lv_if_ne (tgt := 9) hx hb dX12_pairs_4 (by decide) (fun c => absurd c (by decide)) (fun _ => ?_)
    refine lv_iconst (v := (-1)) hx hb dX12_pairs_7 (by decide) ?_
    have hpost : True := trivial
    rw [hQ]
    exact W.iret (v := (-1)) hx hb hr (fun t ht hW => ⟨⟨(-1), (-1), rfl, rfl, ⟨by rw [ht]; exact hI, hN.warm hW, va_K.moved hW.alike hK⟩, by first | (rw [ht]; exact hpost) | exact hpost⟩, hS.F ht⟩) hS.2.2 dX12_pairs_8
theorem dX12_job_0g : (decode cX12_job 0 = .ok (.iload_n 1, 1)) ∧ (decode cX12_job 1 = .ok (.invokestatic 118, 3)) ∧ (decode cX12_job 4 = .ok (.ifCond .eq 20, 3)) ∧ (decode cX12_job 7 = .ok (.iload_n 2, 1)) ∧ (decode cX12_job 8 = .ok (.iconst 1, 1)) ∧ (decode cX12_job 9 = .ok (.bipush 6, 2)) ∧ (decode cX12_job 11 = .ok (.invokestatic 103, 3)) ∧ (decode cX12_job 14 = .ok (.ifCond .eq 10, 3)) ∧ (decode cX12_job 17 = .ok (.iload_n 3, 1)) ∧ (decode cX12_job 18 = .ok (.invokestatic 114, 3)) := by decide +kernel
theorem dX12_job_0 : decode cX12_job 0 = .ok (.iload_n 1, 1) := dX12_job_0g.1
theorem dX12_job_1 : decode cX12_job 1 = .ok (.invokestatic 118, 3) := dX12_job_0g.2.1
theorem dX12_job_4 : decode cX12_job 4 = .ok (.ifCond .eq 20, 3) := dX12_job_0g.2.2.1
theorem dX12_job_7 : decode cX12_job 7 = .ok (.iload_n 2, 1) := dX12_job_0g.2.2.2.1
theorem dX12_job_8 : decode cX12_job 8 = .ok (.iconst 1, 1) := dX12_job_0g.2.2.2.2.1
theorem dX12_job_9 : decode cX12_job 9 = .ok (.bipush 6, 2) := dX12_job_0g.2.2.2.2.2.1
theorem dX12_job_11 : decode cX12_job 11 = .ok (.invokestatic 103, 3) := dX12_job_0g.2.2.2.2.2.2.1
theorem dX12_job_14 : decode cX12_job 14 = .ok (.ifCond .eq 10, 3) := dX12_job_0g.2.2.2.2.2.2.2.1
theorem dX12_job_17 : decode cX12_job 17 = .ok (.iload_n 3, 1) := dX12_job_0g.2.2.2.2.2.2.2.2.1
theorem dX12_job_18 : decode cX12_job 18 = .ok (.invokestatic 114, 3) := dX12_job_0g.2.2.2.2.2.2.2.2.2
theorem dX12_job_21g : (decode cX12_job 21 = .ok (.ifCond .ne 9, 3)) ∧ (decode cX12_job 24 = .ok (.aload_n 0, 1)) ∧ (decode cX12_job 25 = .ok (.iconst (-1), 1)) ∧ (decode cX12_job 26 = .ok (.invokevirtual 107, 3)) ∧ (decode cX12_job 29 = .ok (.ireturn, 1)) ∧ (decode cX12_job 30 = .ok (.aload_n 0, 1)) ∧ (decode cX12_job 31 = .ok (.getfield 20, 3)) ∧ (decode cX12_job 34 = .ok (.sipush 313, 3)) ∧ (decode cX12_job 37 = .ok (.iaload, 1)) ∧ (decode cX12_job 38 = .ok (.bipush 6, 2)) := by decide +kernel
theorem dX12_job_21 : decode cX12_job 21 = .ok (.ifCond .ne 9, 3) := dX12_job_21g.1
theorem dX12_job_24 : decode cX12_job 24 = .ok (.aload_n 0, 1) := dX12_job_21g.2.1
theorem dX12_job_25 : decode cX12_job 25 = .ok (.iconst (-1), 1) := dX12_job_21g.2.2.1
theorem dX12_job_26 : decode cX12_job 26 = .ok (.invokevirtual 107, 3) := dX12_job_21g.2.2.2.1
theorem dX12_job_29 : decode cX12_job 29 = .ok (.ireturn, 1) := dX12_job_21g.2.2.2.2.1
theorem dX12_job_30 : decode cX12_job 30 = .ok (.aload_n 0, 1) := dX12_job_21g.2.2.2.2.2.1
theorem dX12_job_31 : decode cX12_job 31 = .ok (.getfield 20, 3) := dX12_job_21g.2.2.2.2.2.2.1
theorem dX12_job_34 : decode cX12_job 34 = .ok (.sipush 313, 3) := dX12_job_21g.2.2.2.2.2.2.2.1
theorem dX12_job_37 : decode cX12_job 37 = .ok (.iaload, 1) := dX12_job_21g.2.2.2.2.2.2.2.2.1
theorem dX12_job_38 : decode cX12_job 38 = .ok (.bipush 6, 2) := dX12_job_21g.2.2.2.2.2.2.2.2.2
theorem dX12_job_40g : (decode cX12_job 40 = .ok (.if_icmp .ne 10, 3)) ∧ (decode cX12_job 43 = .ok (.aload_n 0, 1)) ∧ (decode cX12_job 44 = .ok (.bipush (-5), 2)) ∧ (decode cX12_job 46 = .ok (.invokevirtual 107, 3)) ∧ (decode cX12_job 49 = .ok (.ireturn, 1)) ∧ (decode cX12_job 50 = .ok (.aload_n 0, 1)) ∧ (decode cX12_job 51 = .ok (.aload_n 0, 1)) ∧ (decode cX12_job 52 = .ok (.sipush 264, 3)) ∧ (decode cX12_job 55 = .ok (.sipush 313, 3)) ∧ (decode cX12_job 58 = .ok (.iconst 3, 1)) := by decide +kernel
theorem dX12_job_40 : decode cX12_job 40 = .ok (.if_icmp .ne 10, 3) := dX12_job_40g.1
theorem dX12_job_43 : decode cX12_job 43 = .ok (.aload_n 0, 1) := dX12_job_40g.2.1
theorem dX12_job_44 : decode cX12_job 44 = .ok (.bipush (-5), 2) := dX12_job_40g.2.2.1
theorem dX12_job_46 : decode cX12_job 46 = .ok (.invokevirtual 107, 3) := dX12_job_40g.2.2.2.1
theorem dX12_job_49 : decode cX12_job 49 = .ok (.ireturn, 1) := dX12_job_40g.2.2.2.2.1
theorem dX12_job_50 : decode cX12_job 50 = .ok (.aload_n 0, 1) := dX12_job_40g.2.2.2.2.2.1
theorem dX12_job_51 : decode cX12_job 51 = .ok (.aload_n 0, 1) := dX12_job_40g.2.2.2.2.2.2.1
theorem dX12_job_52 : decode cX12_job 52 = .ok (.sipush 264, 3) := dX12_job_40g.2.2.2.2.2.2.2.1
theorem dX12_job_55 : decode cX12_job 55 = .ok (.sipush 313, 3) := dX12_job_40g.2.2.2.2.2.2.2.2.1
theorem dX12_job_58 : decode cX12_job 58 = .ok (.iconst 3, 1) := dX12_job_40g.2.2.2.2.2.2.2.2.2
theorem dX12_job_59g : (decode cX12_job 59 = .ok (.iload_n 1, 1)) ∧ (decode cX12_job 60 = .ok (.iload_n 2, 1)) ∧ (decode cX12_job 61 = .ok (.iload_n 3, 1)) ∧ (decode cX12_job 62 = .ok (.iconst 0, 1)) ∧ (decode cX12_job 63 = .ok (.invokevirtual 125, 3)) ∧ (decode cX12_job 66 = .ok (.invokevirtual 111, 3)) ∧ (decode cX12_job 69 = .ok (.ireturn, 1)) := by decide +kernel
theorem dX12_job_59 : decode cX12_job 59 = .ok (.iload_n 1, 1) := dX12_job_59g.1
theorem dX12_job_60 : decode cX12_job 60 = .ok (.iload_n 2, 1) := dX12_job_59g.2.1
theorem dX12_job_61 : decode cX12_job 61 = .ok (.iload_n 3, 1) := dX12_job_59g.2.2.1
theorem dX12_job_62 : decode cX12_job 62 = .ok (.iconst 0, 1) := dX12_job_59g.2.2.2.1
theorem dX12_job_63 : decode cX12_job 63 = .ok (.invokevirtual 125, 3) := dX12_job_59g.2.2.2.2.1
theorem dX12_job_66 : decode cX12_job 66 = .ok (.invokevirtual 111, 3) := dX12_job_59g.2.2.2.2.2.1
theorem dX12_job_69 : decode cX12_job 69 = .ok (.ireturn, 1) := dX12_job_59g.2.2.2.2.2.2
set_option maxHeartbeats 4000000 in
set_option maxRecDepth 100000 in
theorem c_X12_job (l : Launch) (E : Nat → Nat) (D : va_G) (G : th_G) (h0 : Nat) (hG0 : G h0 = some (10, 0)) (x1 : Int32) (x2 : Int32) (x3 : Int32) : Met l yX12_job (tb (.code yX12_job cX12_job 4 (some .int))) (rm 2) (va_Pc [.ref h0, .int x1, .int x2, .int x3] (PX E D G (fun H => True))) (QXi E D G (fun r H => True)) 0 0 (th_A G) := by
  refine Met.ofW (cc := cX12_job) (maxL := 4) (ret := (some .int)) (by decide) rfl ?_
  intro p e s m args below meth c s₁ B hml hv
  obtain ⟨hav, ⟨hI, hN, hK⟩, hX⟩ := hv
  have hx := B.exec
  have hb := B.bytes
  have hr := B.returns
  have hts := atoms_spec (ws := tb (.code yX12_job cX12_job 4 (some .int))) B.pre
  have hown : s.vm.findClass RX12 = some m.cls := findClass_of_methodNamed B.named
  have hlocks := B.notSynchronized
  have hS : va_S (th_A G) s.heap s.heap [] := va_S.rf
  have hl := lv_entry ([.ref h0, .int x1, .int x2, .int x3]) (n := 4) (Nat.le_of_ble_eq_true rfl)
  rw [show entryFrame m args 4 = entryFrame m ([.ref h0, .int x1, .int x2, .int x3] : List Value).toArray 4 from by rw [hav], lg_entry_eq]
  generalize (lg_sl ([.ref h0, .int x1, .int x2, .int x3]) ++ List.replicate (4 - (lg_sl ([.ref h0, .int x1, .int x2, .int x3])).length) Slot.unset).toArray = ls at hl ⊢
  have hl : lv_has ls 4 [(0, .ref h0), (1, .int x1), (2, .int x2), (3, .int x3)] := hl
  generalize hR : (headSpec (tb (.code yX12_job cX12_job 4 (some .int))) (rm 2)).room = R
  have hR := hR.symm
  generalize hQ : MQ below (QXi E D G (fun r H => True)) args s 0 0 (th_A G) = QF
  have hQ := hQ.symm
  have J_24 : ∀ (H : Heap) (locs : List Loc) (ls : Array Slot)  , lv_has ls 4 [(0, .ref h0), (1, .int x1), (2, .int x2), (3, .int x3)] → th_I (okM E) D G [] H → va_S (th_A G) s.heap H locs → W p l e R s m args below meth c H locs 0 0 QF (F0 m 24 ls []) := by
    intro H locs ls   hl  hI hS
    refine lv_aload_n hx hb dX12_job_24 rfl (lv_at hl 0 rfl) ?_
    refine lv_iconst (v := (-1)) hx hb dX12_job_25 (by decide) ?_
    refine mx_i (As := [.int (-1)]) (rest := []) (n := 1) (d := 0) ⟨hx, hb, hml, hown, hts⟩ (c_X12_refuses l E D G h0 hG0 (-1) ⟨by decide, by decide⟩) wd_1398 wd_1400 wp_40 wd_13 wd_1401 (by decide +kernel) ⟨by rw [hR]; exact Nat.le_of_ble_eq_true rfl, by rw [hR]; exact Nat.le_of_ble_eq_true rfl⟩ hI hN hK hS hG0 (trivial) rfl hl.1 rfl (Nat.le_of_ble_eq_true rfl) dX12_job_26 ⟨Nat.zero_le _, Nat.zero_le _⟩ (fun r200 H locs hI hp hS => ?_)
    obtain rfl := hp.symm
    have hpost : True := trivial
    rw [hQ]
    exact W.iret (v := (-1)) hx hb hr (fun t ht hW => ⟨⟨(-1), (-1), rfl, rfl, ⟨by rw [ht]; exact hI, hN.warm hW, va_K.moved hW.alike hK⟩, by first | (rw [ht]; exact hpost) | exact hpost⟩, hS.F ht⟩) hS.2.2 dX12_job_29
  refine lv_iload_n hx hb dX12_job_0 rfl (lv_at hl 1 rfl) ?_
  refine th_cSs (As := [.int x1]) (rest := []) (n := 1) (d := 1) ⟨hx, hb, hml, hown, hts⟩ (c_X12_isCell l s.heap x1) wd_1414 wd_1415 wd_13 wd_1416 (by decide +kernel) ⟨by rw [hR]; exact Nat.le_of_ble_eq_true rfl, by rw [hR]; exact Nat.le_of_ble_eq_true rfl⟩ hN hS rfl hl.1 rfl (Nat.le_of_ble_eq_true rfl) dX12_job_1 ⟨Nat.zero_le _, Nat.zero_le _⟩ (fun r201 locs hp hS => ?_)
  rcases hp with ⟨rfl, hp⟩ | ⟨rfl, hp⟩
  · skip
    try simp only [rg, not_and, Int.not_le] at hp
    have hp202 := hp
    refine lv_if_eq (tgt := 24) hx hb dX12_job_4 (by decide) (fun c => absurd c (by decide)) (fun _ => ?_)
    refine lv_iload_n hx hb dX12_job_7 rfl (lv_at hl 2 rfl) ?_
    refine lv_iconst (v := 1) hx hb dX12_job_8 (by decide) ?_
    refine lv_bipush (v := 6) hx hb dX12_job_9 (by decide) ?_
    refine th_cSs (As := [.int x2, .int 1, .int 6]) (rest := []) (n := 3) (d := 0) ⟨hx, hb, hml, hown, hts⟩ (c_X12_lies l s.heap x2 1 6) wd_1395 wd_1396 wd_13 wd_1397 (by decide +kernel) ⟨by rw [hR]; exact Nat.le_of_ble_eq_true rfl, by rw [hR]; exact Nat.le_of_ble_eq_true rfl⟩ hN hS rfl hl.1 rfl (Nat.le_of_ble_eq_true rfl) dX12_job_11 ⟨Nat.zero_le _, Nat.zero_le _⟩ (fun r203 locs hp hS => ?_)
    rcases hp with ⟨rfl, hp⟩ | ⟨rfl, hp⟩
    · skip
      try simp only [rg, not_and, Int.not_le] at hp
      have hp204 := hp
      try rw [show (1 : Int32).toInt = 1 from by decide] at hp204
      try rw [show (6 : Int32).toInt = 6 from by decide] at hp204
      refine lv_if_eq (tgt := 24) hx hb dX12_job_14 (by decide) (fun c => absurd c (by decide)) (fun _ => ?_)
      refine lv_iload_n hx hb dX12_job_17 rfl (lv_at hl 3 rfl) ?_
      refine th_cSs (As := [.int x3]) (rest := []) (n := 1) (d := 1) ⟨hx, hb, hml, hown, hts⟩ (c_X12_isHour l s.heap x3) wd_1428 wd_1429 wd_13 wd_1430 (by decide +kernel) ⟨by rw [hR]; exact Nat.le_of_ble_eq_true rfl, by rw [hR]; exact Nat.le_of_ble_eq_true rfl⟩ hN hS rfl hl.1 rfl (Nat.le_of_ble_eq_true rfl) dX12_job_18 ⟨Nat.zero_le _, Nat.zero_le _⟩ (fun r205 locs hp hS => ?_)
      rcases hp with ⟨rfl, hp⟩ | ⟨rfl, hp⟩
      · skip
        try simp only [rg, not_and, Int.not_le] at hp
        have hp206 := hp
        refine lv_if_ne (tgt := 30) hx hb dX12_job_21 (by decide) (fun _ => ?_) (fun c => absurd c (by decide))
        refine lv_aload_n hx hb dX12_job_30 rfl (lv_at hl 0 rfl) ?_
        refine gmA hx hb hts inT12 hown hK hI List.not_mem_nil hG0 3 (by decide) (hts _ (tb_c wd_1236)) rfl rfl dX12_job_31 (fun a207 hq208 hf209 => ?_)
        refine lv_sipush (v := 313) hx hb dX12_job_34 (by decide) ?_
        obtain ⟨F210, hA211, hP212⟩ := om_1 hI hq208 List.not_mem_nil
        refine th_iald hx hb hK hA211 0 rfl (iv_in (X := (313)) (by decide) (by omega) (by omega)) dX12_job_37 (fun v213 e214 => ?_)
        have k215 := kg_m313 (kOk.get (i := 313) hP212 e214 (X := (313)) (by decide) (by omega) (by omega)) (by omega) (by omega) (by omega)
        refine lv_bipush (v := 6) hx hb dX12_job_38 (by decide) ?_
        refine lv_icmp_ne (tgt := 50) hx hb dX12_job_40 (by decide) (fun c216 => ?_) (fun c216 => ?_)
        · skip
          have k217 := iv_ne (X := v213.toInt) (Y := (6)) rfl (by decide) c216
          refine lv_aload_n hx hb dX12_job_50 rfl (lv_at hl 0 rfl) ?_
          refine lv_aload_n hx hb dX12_job_51 rfl (lv_at hl 0 rfl) ?_
          refine lv_sipush (v := 264) hx hb dX12_job_52 (by decide) ?_
          refine lv_sipush (v := 313) hx hb dX12_job_55 (by decide) ?_
          refine lv_iconst (v := 3) hx hb dX12_job_58 (by decide) ?_
          refine lv_iload_n hx hb dX12_job_59 rfl (lv_at hl 1 rfl) ?_
          refine lv_iload_n hx hb dX12_job_60 rfl (lv_at hl 2 rfl) ?_
          refine lv_iload_n hx hb dX12_job_61 rfl (lv_at hl 3 rfl) ?_
          refine lv_iconst (v := 0) hx hb dX12_job_62 (by decide) ?_
          refine mx_i (As := [.int 264, .int 313, .int 3, .int x1, .int x2, .int x3, .int 0]) (rest := [.ref h0]) (n := 7) (d := 0) ⟨hx, hb, hml, hown, hts⟩ (c_X12_comesBehind_313 l E D G h0 hG0 x1 x2 x3 0 ⟨by omega, by omega⟩ ⟨by omega, by omega⟩ F210 hP212 (lt_of_rd e214 rfl (by omega))) wd_1435 wd_1437 wp_42 wd_13 wd_1438 (by decide +kernel) ⟨by rw [hR]; exact Nat.le_of_ble_eq_true rfl, by rw [hR]; exact Nat.le_of_ble_eq_true rfl⟩ hI hN hK hS hG0 (⟨a207, hf209, hq208, hA211⟩) rfl hl.1 rfl (Nat.le_of_ble_eq_true rfl) dX12_job_63 ⟨Nat.zero_le _, Nat.zero_le _⟩ (fun r218 H locs hI hp hS => ?_)
          refine mx_i (As := [.int r218]) (rest := []) (n := 1) (d := 0) ⟨hx, hb, hml, hown, hts⟩ (c_X12_good l E D G h0 hG0 r218) wd_1402 wd_1404 wp_41 wd_13 wd_1405 (by decide +kernel) ⟨by rw [hR]; exact Nat.le_of_ble_eq_true rfl, by rw [hR]; exact Nat.le_of_ble_eq_true rfl⟩ hI hN hK hS hG0 (trivial) rfl hl.1 rfl (Nat.le_of_ble_eq_true rfl) dX12_job_66 ⟨Nat.zero_le _, Nat.zero_le _⟩ (fun r219 H locs hI hp hS => ?_)
          obtain rfl := hp.symm
          have hpost : True := trivial
          rw [hQ]
          exact W.iret (v := r218) hx hb hr (fun t ht hW => ⟨⟨r218, r218, rfl, rfl, ⟨by rw [ht]; exact hI, hN.warm hW, va_K.moved hW.alike hK⟩, by first | (rw [ht]; exact hpost) | exact hpost⟩, hS.F ht⟩) hS.2.2 dX12_job_69
        · skip
          have k220 := iv_eq (X := v213.toInt) (Y := (6)) rfl (by decide) c216
          refine lv_aload_n hx hb dX12_job_43 rfl (lv_at hl 0 rfl) ?_
          refine lv_bipush (v := (-5)) hx hb dX12_job_44 (by decide) ?_
          refine mx_i (As := [.int (-5)]) (rest := []) (n := 1) (d := 0) ⟨hx, hb, hml, hown, hts⟩ (c_X12_refuses l E D G h0 hG0 (-5) ⟨by decide, by decide⟩) wd_1398 wd_1400 wp_40 wd_13 wd_1401 (by decide +kernel) ⟨by rw [hR]; exact Nat.le_of_ble_eq_true rfl, by rw [hR]; exact Nat.le_of_ble_eq_true rfl⟩ hI hN hK hS hG0 (trivial) rfl hl.1 rfl (Nat.le_of_ble_eq_true rfl) dX12_job_46 ⟨Nat.zero_le _, Nat.zero_le _⟩ (fun r221 H locs hI hp hS => ?_)
          obtain rfl := hp.symm
          have hpost : True := trivial
          rw [hQ]
          exact W.iret (v := (-5)) hx hb hr (fun t ht hW => ⟨⟨(-5), (-5), rfl, rfl, ⟨by rw [ht]; exact hI, hN.warm hW, va_K.moved hW.alike hK⟩, by first | (rw [ht]; exact hpost) | exact hpost⟩, hS.F ht⟩) hS.2.2 dX12_job_49
      · skip
        try simp only [rg, not_and, Int.not_le] at hp
        have hp222 := hp
        refine lv_if_ne (tgt := 30) hx hb dX12_job_21 (by decide) (fun c => absurd c (by decide)) (fun _ => ?_)
        exact J_24 s.heap locs ls   (lv_sub hl [0, 1, 2, 3] rfl)  hI hS
    · skip
      try simp only [rg, not_and, Int.not_le] at hp
      have hp223 := hp
      try rw [show (1 : Int32).toInt = 1 from by decide] at hp223
      try rw [show (6 : Int32).toInt = 6 from by decide] at hp223
      refine lv_if_eq (tgt := 24) hx hb dX12_job_14 (by decide) (fun _ => ?_) (fun c => absurd c (by decide))
      exact J_24 s.heap locs ls   (lv_sub hl [0, 1, 2, 3] rfl)  hI hS
  · skip
    try simp only [rg, not_and, Int.not_le] at hp
    have hp224 := hp
    refine lv_if_eq (tgt := 24) hx hb dX12_job_4 (by decide) (fun _ => ?_) (fun c => absurd c (by decide))
    exact J_24 s.heap locs ls   (lv_sub hl [0, 1, 2, 3] rfl)  hI hS
theorem dX12_hang_0g : (decode cX12_hang 0 = .ok (.aload_n 0, 1)) ∧ (decode cX12_hang 1 = .ok (.sipush 313, 3)) ∧ (decode cX12_hang 4 = .ok (.invokevirtual 345, 3)) ∧ (decode cX12_hang 7 = .ok (.ireturn, 1)) := by decide +kernel
theorem dX12_hang_0 : decode cX12_hang 0 = .ok (.aload_n 0, 1) := dX12_hang_0g.1
theorem dX12_hang_1 : decode cX12_hang 1 = .ok (.sipush 313, 3) := dX12_hang_0g.2.1
theorem dX12_hang_4 : decode cX12_hang 4 = .ok (.invokevirtual 345, 3) := dX12_hang_0g.2.2.1
theorem dX12_hang_7 : decode cX12_hang 7 = .ok (.ireturn, 1) := dX12_hang_0g.2.2.2
set_option maxHeartbeats 4000000 in
set_option maxRecDepth 100000 in
theorem c_X12_hang (l : Launch) (E : Nat → Nat) (D : va_G) (G : th_G) (h0 : Nat) (hG0 : G h0 = some (10, 0)) : Met l yX12_hang (tb (.code yX12_hang cX12_hang 1 (some .int))) (rm 1) (va_Pc [.ref h0] (PX E D G (fun H => True))) (QXi E D G (fun r H => True)) 0 0 (th_A G) := by
  refine Met.ofW (cc := cX12_hang) (maxL := 1) (ret := (some .int)) (by decide) rfl ?_
  intro p e s m args below meth c s₁ B hml hv
  obtain ⟨hav, ⟨hI, hN, hK⟩, hX⟩ := hv
  have hx := B.exec
  have hb := B.bytes
  have hr := B.returns
  have hts := atoms_spec (ws := tb (.code yX12_hang cX12_hang 1 (some .int))) B.pre
  have hown : s.vm.findClass RX12 = some m.cls := findClass_of_methodNamed B.named
  have hlocks := B.notSynchronized
  have hS : va_S (th_A G) s.heap s.heap [] := va_S.rf
  have hl := lv_entry ([.ref h0]) (n := 1) (Nat.le_of_ble_eq_true rfl)
  rw [show entryFrame m args 1 = entryFrame m ([.ref h0] : List Value).toArray 1 from by rw [hav], lg_entry_eq]
  generalize (lg_sl ([.ref h0]) ++ List.replicate (1 - (lg_sl ([.ref h0])).length) Slot.unset).toArray = ls at hl ⊢
  have hl : lv_has ls 1 [(0, .ref h0)] := hl
  generalize hR : (headSpec (tb (.code yX12_hang cX12_hang 1 (some .int))) (rm 1)).room = R
  have hR := hR.symm
  generalize hQ : MQ below (QXi E D G (fun r H => True)) args s 0 0 (th_A G) = QF
  have hQ := hQ.symm
  refine lv_aload_n hx hb dX12_hang_0 rfl (lv_at hl 0 rfl) ?_
  refine lv_sipush (v := 313) hx hb dX12_hang_1 (by decide) ?_
  refine mx_i (As := [.int 313]) (rest := []) (n := 1) (d := 0) ⟨hx, hb, hml, hown, hts⟩ (c_X12_goAll_313 l E D G h0 hG0 ) wd_1749 wd_1751 wp_85 wd_13 wd_1752 (by decide +kernel) ⟨by rw [hR]; exact Nat.le_of_ble_eq_true rfl, by rw [hR]; exact Nat.le_of_ble_eq_true rfl⟩ hI hN hK hS hG0 (trivial) rfl hl.1 rfl (Nat.le_of_ble_eq_true rfl) dX12_hang_4 ⟨Nat.zero_le _, Nat.zero_le _⟩ (fun r1 H locs hI hp hS => ?_)
  have hpost : True := trivial
  rw [hQ]
  exact W.iret (v := r1) hx hb hr (fun t ht hW => ⟨⟨r1, r1, rfl, rfl, ⟨by rw [ht]; exact hI, hN.warm hW, va_K.moved hW.alike hK⟩, by first | (rw [ht]; exact hpost) | exact hpost⟩, hS.F ht⟩) hS.2.2 dX12_hang_7
theorem dX12_firstAt_0g : (decode cX12_firstAt 0 = .ok (.aload_n 0, 1)) ∧ (decode cX12_firstAt 1 = .ok (.iload_n 1, 1)) ∧ (decode cX12_firstAt 2 = .ok (.iload_n 2, 1)) ∧ (decode cX12_firstAt 3 = .ok (.iload_n 3, 1)) ∧ (decode cX12_firstAt 4 = .ok (.iload_n 2, 1)) ∧ (decode cX12_firstAt 5 = .ok (.bipush 96, 2)) ∧ (decode cX12_firstAt 7 = .ok (.invokevirtual 328, 3)) ∧ (decode cX12_firstAt 10 = .ok (.ireturn, 1)) := by decide +kernel
theorem dX12_firstAt_0 : decode cX12_firstAt 0 = .ok (.aload_n 0, 1) := dX12_firstAt_0g.1
theorem dX12_firstAt_1 : decode cX12_firstAt 1 = .ok (.iload_n 1, 1) := dX12_firstAt_0g.2.1
theorem dX12_firstAt_2 : decode cX12_firstAt 2 = .ok (.iload_n 2, 1) := dX12_firstAt_0g.2.2.1
theorem dX12_firstAt_3 : decode cX12_firstAt 3 = .ok (.iload_n 3, 1) := dX12_firstAt_0g.2.2.2.1
theorem dX12_firstAt_4 : decode cX12_firstAt 4 = .ok (.iload_n 2, 1) := dX12_firstAt_0g.2.2.2.2.1
theorem dX12_firstAt_5 : decode cX12_firstAt 5 = .ok (.bipush 96, 2) := dX12_firstAt_0g.2.2.2.2.2.1
theorem dX12_firstAt_7 : decode cX12_firstAt 7 = .ok (.invokevirtual 328, 3) := dX12_firstAt_0g.2.2.2.2.2.2.1
theorem dX12_firstAt_10 : decode cX12_firstAt 10 = .ok (.ireturn, 1) := dX12_firstAt_0g.2.2.2.2.2.2.2
set_option maxHeartbeats 4000000 in
set_option maxRecDepth 100000 in
theorem c_X12_firstAt (l : Launch) (E : Nat → Nat) (D : va_G) (G : th_G) (H0 : Heap) (h0 : Nat) (hG0 : G h0 = some (10, 0)) (x1 : Int32) (x2 : Int32) (x3 : Int32) (hx1 : (0 : Int) ≤ x1.toInt ∧ x1.toInt ≤ 24) (hx2 : (0 : Int) ≤ x2.toInt) : Met l yX12_firstAt (tb (.code yX12_firstAt cX12_firstAt 4 (some .int))) (rm 1) (va_Pc [.ref h0, .int x1, .int x2, .int x3] (PR E D G H0)) (QS H0 (fun r => (-1 : Int) ≤ (r : Int32).toInt ∧ (r : Int32).toInt ≤ 96)) 0 0 (fun _ => False) := by
  refine Met.ofW (cc := cX12_firstAt) (maxL := 4) (ret := (some .int)) (by decide) rfl ?_
  intro p e s m args below meth c s₁ B hml hv
  obtain ⟨hav, rfl, hI, hN, hK⟩ := hv
  have hx := B.exec
  have hb := B.bytes
  have hr := B.returns
  have hts := atoms_spec (ws := tb (.code yX12_firstAt cX12_firstAt 4 (some .int))) B.pre
  have hown : s.vm.findClass RX12 = some m.cls := findClass_of_methodNamed B.named
  have hlocks := B.notSynchronized
  have hS : va_S (fun _ => False) s.heap s.heap [] := va_S.rf
  have hl := lv_entry ([.ref h0, .int x1, .int x2, .int x3]) (n := 4) (Nat.le_of_ble_eq_true rfl)
  rw [show entryFrame m args 4 = entryFrame m ([.ref h0, .int x1, .int x2, .int x3] : List Value).toArray 4 from by rw [hav], lg_entry_eq]
  generalize (lg_sl ([.ref h0, .int x1, .int x2, .int x3]) ++ List.replicate (4 - (lg_sl ([.ref h0, .int x1, .int x2, .int x3])).length) Slot.unset).toArray = ls at hl ⊢
  have hl : lv_has ls 4 [(0, .ref h0), (1, .int x1), (2, .int x2), (3, .int x3)] := hl
  generalize hR : (headSpec (tb (.code yX12_firstAt cX12_firstAt 4 (some .int))) (rm 1)).room = R
  have hR := hR.symm
  generalize hQ : MQ below (QS s.heap (fun r => (-1 : Int) ≤ (r : Int32).toInt ∧ (r : Int32).toInt ≤ 96)) args s 0 0 (fun _ => False) = QF
  have hQ := hQ.symm
  obtain ⟨q_3, hq_3, hf_3⟩ := fr_of hI hG0 3 (by decide) (kd := (1, 5123)) rfl
  obtain ⟨F_3, hA_3, hP_3⟩ := om_1 hI hq_3 List.not_mem_nil
  refine lv_aload_n hx hb dX12_firstAt_0 rfl (lv_at hl 0 rfl) ?_
  refine lv_iload_n hx hb dX12_firstAt_1 rfl (lv_at hl 1 rfl) ?_
  refine lv_iload_n hx hb dX12_firstAt_2 rfl (lv_at hl 2 rfl) ?_
  refine lv_iload_n hx hb dX12_firstAt_3 rfl (lv_at hl 3 rfl) ?_
  refine lv_iload_n hx hb dX12_firstAt_4 rfl (lv_at hl 2 rfl) ?_
  refine lv_bipush (v := 96) hx hb dX12_firstAt_5 (by decide) ?_
  have k2 := iv_lo x2
  have k3 := iv_hi x2
  refine mr_i (As := [.int x1, .int x2, .int x3, .int x2, .int 96]) (rest := []) (n := 5) (d := 0) ⟨hx, hb, hml, hown, hts⟩ (c_X12_thereAt l E D G s.heap h0 hG0 x1 x2 x3 x2 96 ⟨by omega, by omega⟩ (by omega) (by decide)) wd_1737 wd_1739 wp_84 wd_13 wd_1740 (by decide +kernel) ⟨by rw [hR]; exact Nat.le_of_ble_eq_true rfl, by rw [hR]; exact Nat.le_of_ble_eq_true rfl⟩ hI hN hK hS hG0 rfl hl.1 rfl (Nat.le_of_ble_eq_true rfl) dX12_firstAt_7 ⟨Nat.zero_le _, Nat.zero_le _⟩ (fun r1 locs hp hS => ?_)
  have hp4 := hp
  have hpost : (-1 : Int) ≤ (r1 : Int32).toInt ∧ (r1 : Int32).toInt ≤ 96 := by first | decide | omega
  rw [hQ]
  exact W.iret (v := r1) hx hb hr (fun t ht hW => ⟨⟨r1, (), rfl, hpost, ht⟩, hS.F ht⟩) hS.2.2 dX12_firstAt_10
theorem dX12_lovers_0g : (decode cX12_lovers 0 = .ok (.iload_n 1, 1)) ∧ (decode cX12_lovers 1 = .ok (.invokestatic 118, 3)) ∧ (decode cX12_lovers 4 = .ok (.ifCond .eq 27, 3)) ∧ (decode cX12_lovers 7 = .ok (.iload_n 2, 1)) ∧ (decode cX12_lovers 8 = .ok (.invokestatic 118, 3)) ∧ (decode cX12_lovers 11 = .ok (.ifCond .eq 20, 3)) ∧ (decode cX12_lovers 14 = .ok (.iload_n 3, 1)) ∧ (decode cX12_lovers 15 = .ok (.invokestatic 298, 3)) ∧ (decode cX12_lovers 18 = .ok (.ifCond .eq 13, 3)) ∧ (decode cX12_lovers 21 = .ok (.iload 4, 2)) := by decide +kernel
theorem dX12_lovers_0 : decode cX12_lovers 0 = .ok (.iload_n 1, 1) := dX12_lovers_0g.1
theorem dX12_lovers_1 : decode cX12_lovers 1 = .ok (.invokestatic 118, 3) := dX12_lovers_0g.2.1
theorem dX12_lovers_4 : decode cX12_lovers 4 = .ok (.ifCond .eq 27, 3) := dX12_lovers_0g.2.2.1
theorem dX12_lovers_7 : decode cX12_lovers 7 = .ok (.iload_n 2, 1) := dX12_lovers_0g.2.2.2.1
theorem dX12_lovers_8 : decode cX12_lovers 8 = .ok (.invokestatic 118, 3) := dX12_lovers_0g.2.2.2.2.1
theorem dX12_lovers_11 : decode cX12_lovers 11 = .ok (.ifCond .eq 20, 3) := dX12_lovers_0g.2.2.2.2.2.1
theorem dX12_lovers_14 : decode cX12_lovers 14 = .ok (.iload_n 3, 1) := dX12_lovers_0g.2.2.2.2.2.2.1
theorem dX12_lovers_15 : decode cX12_lovers 15 = .ok (.invokestatic 298, 3) := dX12_lovers_0g.2.2.2.2.2.2.2.1
theorem dX12_lovers_18 : decode cX12_lovers 18 = .ok (.ifCond .eq 13, 3) := dX12_lovers_0g.2.2.2.2.2.2.2.2.1
theorem dX12_lovers_21 : decode cX12_lovers 21 = .ok (.iload 4, 2) := dX12_lovers_0g.2.2.2.2.2.2.2.2.2
theorem dX12_lovers_23g : (decode cX12_lovers 23 = .ok (.iconst 0, 1)) ∧ (decode cX12_lovers 24 = .ok (.iconst 1, 1)) ∧ (decode cX12_lovers 25 = .ok (.invokestatic 103, 3)) ∧ (decode cX12_lovers 28 = .ok (.ifCond .ne 5, 3)) ∧ (decode cX12_lovers 31 = .ok (.iconst (-1), 1)) ∧ (decode cX12_lovers 32 = .ok (.ireturn, 1)) ∧ (decode cX12_lovers 33 = .ok (.iload_n 1, 1)) ∧ (decode cX12_lovers 34 = .ok (.iload_n 2, 1)) ∧ (decode cX12_lovers 35 = .ok (.if_icmp .ne 5, 3)) ∧ (decode cX12_lovers 38 = .ok (.iload_n 3, 1)) := by decide +kernel
theorem dX12_lovers_23 : decode cX12_lovers 23 = .ok (.iconst 0, 1) := dX12_lovers_23g.1
theorem dX12_lovers_24 : decode cX12_lovers 24 = .ok (.iconst 1, 1) := dX12_lovers_23g.2.1
theorem dX12_lovers_25 : decode cX12_lovers 25 = .ok (.invokestatic 103, 3) := dX12_lovers_23g.2.2.1
theorem dX12_lovers_28 : decode cX12_lovers 28 = .ok (.ifCond .ne 5, 3) := dX12_lovers_23g.2.2.2.1
theorem dX12_lovers_31 : decode cX12_lovers 31 = .ok (.iconst (-1), 1) := dX12_lovers_23g.2.2.2.2.1
theorem dX12_lovers_32 : decode cX12_lovers 32 = .ok (.ireturn, 1) := dX12_lovers_23g.2.2.2.2.2.1
theorem dX12_lovers_33 : decode cX12_lovers 33 = .ok (.iload_n 1, 1) := dX12_lovers_23g.2.2.2.2.2.2.1
theorem dX12_lovers_34 : decode cX12_lovers 34 = .ok (.iload_n 2, 1) := dX12_lovers_23g.2.2.2.2.2.2.2.1
theorem dX12_lovers_35 : decode cX12_lovers 35 = .ok (.if_icmp .ne 5, 3) := dX12_lovers_23g.2.2.2.2.2.2.2.2.1
theorem dX12_lovers_38 : decode cX12_lovers 38 = .ok (.iload_n 3, 1) := dX12_lovers_23g.2.2.2.2.2.2.2.2.2
theorem dX12_lovers_39g : (decode cX12_lovers 39 = .ok (.ireturn, 1)) ∧ (decode cX12_lovers 40 = .ok (.aload_n 0, 1)) ∧ (decode cX12_lovers 41 = .ok (.invokevirtual 138, 3)) ∧ (decode cX12_lovers 44 = .ok (.aload_n 0, 1)) ∧ (decode cX12_lovers 45 = .ok (.getfield 91, 3)) ∧ (decode cX12_lovers 48 = .ok (.bipush 96, 2)) ∧ (decode cX12_lovers 50 = .ok (.ldc 158, 2)) ∧ (decode cX12_lovers 52 = .ok (.iastore, 1)) ∧ (decode cX12_lovers 53 = .ok (.bipush 95, 2)) ∧ (decode cX12_lovers 55 = .ok (.istore 5, 2)) := by decide +kernel
theorem dX12_lovers_39 : decode cX12_lovers 39 = .ok (.ireturn, 1) := dX12_lovers_39g.1
theorem dX12_lovers_40 : decode cX12_lovers 40 = .ok (.aload_n 0, 1) := dX12_lovers_39g.2.1
theorem dX12_lovers_41 : decode cX12_lovers 41 = .ok (.invokevirtual 138, 3) := dX12_lovers_39g.2.2.1
theorem dX12_lovers_44 : decode cX12_lovers 44 = .ok (.aload_n 0, 1) := dX12_lovers_39g.2.2.2.1
theorem dX12_lovers_45 : decode cX12_lovers 45 = .ok (.getfield 91, 3) := dX12_lovers_39g.2.2.2.2.1
theorem dX12_lovers_48 : decode cX12_lovers 48 = .ok (.bipush 96, 2) := dX12_lovers_39g.2.2.2.2.2.1
theorem dX12_lovers_50 : decode cX12_lovers 50 = .ok (.ldc 158, 2) := dX12_lovers_39g.2.2.2.2.2.2.1
theorem dX12_lovers_52 : decode cX12_lovers 52 = .ok (.iastore, 1) := dX12_lovers_39g.2.2.2.2.2.2.2.1
theorem dX12_lovers_53 : decode cX12_lovers 53 = .ok (.bipush 95, 2) := dX12_lovers_39g.2.2.2.2.2.2.2.2.1
theorem dX12_lovers_55 : decode cX12_lovers 55 = .ok (.istore 5, 2) := dX12_lovers_39g.2.2.2.2.2.2.2.2.2
theorem dX12_lovers_57g : (decode cX12_lovers 57 = .ok (.iload 5, 2)) ∧ (decode cX12_lovers 59 = .ok (.iload_n 3, 1)) ∧ (decode cX12_lovers 60 = .ok (.if_icmp .lt 79, 3)) ∧ (decode cX12_lovers 63 = .ok (.aload_n 0, 1)) ∧ (decode cX12_lovers 64 = .ok (.getfield 64, 3)) ∧ (decode cX12_lovers 67 = .ok (.bipush 24, 2)) ∧ (decode cX12_lovers 69 = .ok (.iload 5, 2)) ∧ (decode cX12_lovers 71 = .ok (.imul, 1)) ∧ (decode cX12_lovers 72 = .ok (.iload_n 2, 1)) ∧ (decode cX12_lovers 73 = .ok (.iadd, 1)) := by decide +kernel
theorem dX12_lovers_57 : decode cX12_lovers 57 = .ok (.iload 5, 2) := dX12_lovers_57g.1
theorem dX12_lovers_59 : decode cX12_lovers 59 = .ok (.iload_n 3, 1) := dX12_lovers_57g.2.1
theorem dX12_lovers_60 : decode cX12_lovers 60 = .ok (.if_icmp .lt 79, 3) := dX12_lovers_57g.2.2.1
theorem dX12_lovers_63 : decode cX12_lovers 63 = .ok (.aload_n 0, 1) := dX12_lovers_57g.2.2.2.1
theorem dX12_lovers_64 : decode cX12_lovers 64 = .ok (.getfield 64, 3) := dX12_lovers_57g.2.2.2.2.1
theorem dX12_lovers_67 : decode cX12_lovers 67 = .ok (.bipush 24, 2) := dX12_lovers_57g.2.2.2.2.2.1
theorem dX12_lovers_69 : decode cX12_lovers 69 = .ok (.iload 5, 2) := dX12_lovers_57g.2.2.2.2.2.2.1
theorem dX12_lovers_71 : decode cX12_lovers 71 = .ok (.imul, 1) := dX12_lovers_57g.2.2.2.2.2.2.2.1
theorem dX12_lovers_72 : decode cX12_lovers 72 = .ok (.iload_n 2, 1) := dX12_lovers_57g.2.2.2.2.2.2.2.2.1
theorem dX12_lovers_73 : decode cX12_lovers 73 = .ok (.iadd, 1) := dX12_lovers_57g.2.2.2.2.2.2.2.2.2
theorem dX12_lovers_74g : (decode cX12_lovers 74 = .ok (.baload, 1)) ∧ (decode cX12_lovers 75 = .ok (.ifCond .eq 7, 3)) ∧ (decode cX12_lovers 78 = .ok (.iconst (-1), 1)) ∧ (decode cX12_lovers 79 = .ok (.goto 11, 3)) ∧ (decode cX12_lovers 82 = .ok (.aload_n 0, 1)) ∧ (decode cX12_lovers 83 = .ok (.iload_n 2, 1)) ∧ (decode cX12_lovers 84 = .ok (.iload 5, 2)) ∧ (decode cX12_lovers 86 = .ok (.iload_n 1, 1)) ∧ (decode cX12_lovers 87 = .ok (.invokevirtual 370, 3)) ∧ (decode cX12_lovers 90 = .ok (.istore 6, 2)) := by decide +kernel
theorem dX12_lovers_74 : decode cX12_lovers 74 = .ok (.baload, 1) := dX12_lovers_74g.1
theorem dX12_lovers_75 : decode cX12_lovers 75 = .ok (.ifCond .eq 7, 3) := dX12_lovers_74g.2.1
theorem dX12_lovers_78 : decode cX12_lovers 78 = .ok (.iconst (-1), 1) := dX12_lovers_74g.2.2.1
theorem dX12_lovers_79 : decode cX12_lovers 79 = .ok (.goto 11, 3) := dX12_lovers_74g.2.2.2.1
theorem dX12_lovers_82 : decode cX12_lovers 82 = .ok (.aload_n 0, 1) := dX12_lovers_74g.2.2.2.2.1
theorem dX12_lovers_83 : decode cX12_lovers 83 = .ok (.iload_n 2, 1) := dX12_lovers_74g.2.2.2.2.2.1
theorem dX12_lovers_84 : decode cX12_lovers 84 = .ok (.iload 5, 2) := dX12_lovers_74g.2.2.2.2.2.2.1
theorem dX12_lovers_86 : decode cX12_lovers 86 = .ok (.iload_n 1, 1) := dX12_lovers_74g.2.2.2.2.2.2.2.1
theorem dX12_lovers_87 : decode cX12_lovers 87 = .ok (.invokevirtual 370, 3) := dX12_lovers_74g.2.2.2.2.2.2.2.2.1
theorem dX12_lovers_90 : decode cX12_lovers 90 = .ok (.istore 6, 2) := dX12_lovers_74g.2.2.2.2.2.2.2.2.2
theorem dX12_lovers_92g : (decode cX12_lovers 92 = .ok (.aload_n 0, 1)) ∧ (decode cX12_lovers 93 = .ok (.getfield 91, 3)) ∧ (decode cX12_lovers 96 = .ok (.iload 5, 2)) ∧ (decode cX12_lovers 98 = .ok (.iload 6, 2)) ∧ (decode cX12_lovers 100 = .ok (.iconst (-1), 1)) ∧ (decode cX12_lovers 101 = .ok (.if_icmp .eq 22, 3)) ∧ (decode cX12_lovers 104 = .ok (.iload 6, 2)) ∧ (decode cX12_lovers 106 = .ok (.aload_n 0, 1)) ∧ (decode cX12_lovers 107 = .ok (.getfield 91, 3)) ∧ (decode cX12_lovers 110 = .ok (.iload 5, 2)) := by decide +kernel
theorem dX12_lovers_92 : decode cX12_lovers 92 = .ok (.aload_n 0, 1) := dX12_lovers_92g.1
theorem dX12_lovers_93 : decode cX12_lovers 93 = .ok (.getfield 91, 3) := dX12_lovers_92g.2.1
theorem dX12_lovers_96 : decode cX12_lovers 96 = .ok (.iload 5, 2) := dX12_lovers_92g.2.2.1
theorem dX12_lovers_98 : decode cX12_lovers 98 = .ok (.iload 6, 2) := dX12_lovers_92g.2.2.2.1
theorem dX12_lovers_100 : decode cX12_lovers 100 = .ok (.iconst (-1), 1) := dX12_lovers_92g.2.2.2.2.1
theorem dX12_lovers_101 : decode cX12_lovers 101 = .ok (.if_icmp .eq 22, 3) := dX12_lovers_92g.2.2.2.2.2.1
theorem dX12_lovers_104 : decode cX12_lovers 104 = .ok (.iload 6, 2) := dX12_lovers_92g.2.2.2.2.2.2.1
theorem dX12_lovers_106 : decode cX12_lovers 106 = .ok (.aload_n 0, 1) := dX12_lovers_92g.2.2.2.2.2.2.2.1
theorem dX12_lovers_107 : decode cX12_lovers 107 = .ok (.getfield 91, 3) := dX12_lovers_92g.2.2.2.2.2.2.2.2.1
theorem dX12_lovers_110 : decode cX12_lovers 110 = .ok (.iload 5, 2) := dX12_lovers_92g.2.2.2.2.2.2.2.2.2
theorem dX12_lovers_112g : (decode cX12_lovers 112 = .ok (.iconst 1, 1)) ∧ (decode cX12_lovers 113 = .ok (.iadd, 1)) ∧ (decode cX12_lovers 114 = .ok (.iaload, 1)) ∧ (decode cX12_lovers 115 = .ok (.if_icmp .ge 8, 3)) ∧ (decode cX12_lovers 118 = .ok (.iload 6, 2)) ∧ (decode cX12_lovers 120 = .ok (.goto 12, 3)) ∧ (decode cX12_lovers 123 = .ok (.aload_n 0, 1)) ∧ (decode cX12_lovers 124 = .ok (.getfield 91, 3)) ∧ (decode cX12_lovers 127 = .ok (.iload 5, 2)) ∧ (decode cX12_lovers 129 = .ok (.iconst 1, 1)) := by decide +kernel
theorem dX12_lovers_112 : decode cX12_lovers 112 = .ok (.iconst 1, 1) := dX12_lovers_112g.1
theorem dX12_lovers_113 : decode cX12_lovers 113 = .ok (.iadd, 1) := dX12_lovers_112g.2.1
theorem dX12_lovers_114 : decode cX12_lovers 114 = .ok (.iaload, 1) := dX12_lovers_112g.2.2.1
theorem dX12_lovers_115 : decode cX12_lovers 115 = .ok (.if_icmp .ge 8, 3) := dX12_lovers_112g.2.2.2.1
theorem dX12_lovers_118 : decode cX12_lovers 118 = .ok (.iload 6, 2) := dX12_lovers_112g.2.2.2.2.1
theorem dX12_lovers_120 : decode cX12_lovers 120 = .ok (.goto 12, 3) := dX12_lovers_112g.2.2.2.2.2.1
theorem dX12_lovers_123 : decode cX12_lovers 123 = .ok (.aload_n 0, 1) := dX12_lovers_112g.2.2.2.2.2.2.1
theorem dX12_lovers_124 : decode cX12_lovers 124 = .ok (.getfield 91, 3) := dX12_lovers_112g.2.2.2.2.2.2.2.1
theorem dX12_lovers_127 : decode cX12_lovers 127 = .ok (.iload 5, 2) := dX12_lovers_112g.2.2.2.2.2.2.2.2.1
theorem dX12_lovers_129 : decode cX12_lovers 129 = .ok (.iconst 1, 1) := dX12_lovers_112g.2.2.2.2.2.2.2.2.2
theorem dX12_lovers_130g : (decode cX12_lovers 130 = .ok (.iadd, 1)) ∧ (decode cX12_lovers 131 = .ok (.iaload, 1)) ∧ (decode cX12_lovers 132 = .ok (.iastore, 1)) ∧ (decode cX12_lovers 133 = .ok (.iinc 5 (-1), 3)) ∧ (decode cX12_lovers 136 = .ok (.goto (-79), 3)) ∧ (decode cX12_lovers 139 = .ok (.ldc 158, 2)) ∧ (decode cX12_lovers 141 = .ok (.istore 5, 2)) ∧ (decode cX12_lovers 143 = .ok (.iconst (-1), 1)) ∧ (decode cX12_lovers 144 = .ok (.istore 6, 2)) ∧ (decode cX12_lovers 146 = .ok (.iload_n 3, 1)) := by decide +kernel
theorem dX12_lovers_130 : decode cX12_lovers 130 = .ok (.iadd, 1) := dX12_lovers_130g.1
theorem dX12_lovers_131 : decode cX12_lovers 131 = .ok (.iaload, 1) := dX12_lovers_130g.2.1
theorem dX12_lovers_132 : decode cX12_lovers 132 = .ok (.iastore, 1) := dX12_lovers_130g.2.2.1
theorem dX12_lovers_133 : decode cX12_lovers 133 = .ok (.iinc 5 (-1), 3) := dX12_lovers_130g.2.2.2.1
theorem dX12_lovers_136 : decode cX12_lovers 136 = .ok (.goto (-79), 3) := dX12_lovers_130g.2.2.2.2.1
theorem dX12_lovers_139 : decode cX12_lovers 139 = .ok (.ldc 158, 2) := dX12_lovers_130g.2.2.2.2.2.1
theorem dX12_lovers_141 : decode cX12_lovers 141 = .ok (.istore 5, 2) := dX12_lovers_130g.2.2.2.2.2.2.1
theorem dX12_lovers_143 : decode cX12_lovers 143 = .ok (.iconst (-1), 1) := dX12_lovers_130g.2.2.2.2.2.2.2.1
theorem dX12_lovers_144 : decode cX12_lovers 144 = .ok (.istore 6, 2) := dX12_lovers_130g.2.2.2.2.2.2.2.2.1
theorem dX12_lovers_146 : decode cX12_lovers 146 = .ok (.iload_n 3, 1) := dX12_lovers_130g.2.2.2.2.2.2.2.2.2
theorem dX12_lovers_147g : (decode cX12_lovers 147 = .ok (.istore 7, 2)) ∧ (decode cX12_lovers 149 = .ok (.iload 7, 2)) ∧ (decode cX12_lovers 151 = .ok (.bipush 96, 2)) ∧ (decode cX12_lovers 153 = .ok (.if_icmp .ge 83, 3)) ∧ (decode cX12_lovers 156 = .ok (.aload_n 0, 1)) ∧ (decode cX12_lovers 157 = .ok (.getfield 64, 3)) ∧ (decode cX12_lovers 160 = .ok (.bipush 24, 2)) ∧ (decode cX12_lovers 162 = .ok (.iload 7, 2)) ∧ (decode cX12_lovers 164 = .ok (.imul, 1)) ∧ (decode cX12_lovers 165 = .ok (.iload_n 1, 1)) := by decide +kernel
theorem dX12_lovers_147 : decode cX12_lovers 147 = .ok (.istore 7, 2) := dX12_lovers_147g.1
theorem dX12_lovers_149 : decode cX12_lovers 149 = .ok (.iload 7, 2) := dX12_lovers_147g.2.1
theorem dX12_lovers_151 : decode cX12_lovers 151 = .ok (.bipush 96, 2) := dX12_lovers_147g.2.2.1
theorem dX12_lovers_153 : decode cX12_lovers 153 = .ok (.if_icmp .ge 83, 3) := dX12_lovers_147g.2.2.2.1
theorem dX12_lovers_156 : decode cX12_lovers 156 = .ok (.aload_n 0, 1) := dX12_lovers_147g.2.2.2.2.1
theorem dX12_lovers_157 : decode cX12_lovers 157 = .ok (.getfield 64, 3) := dX12_lovers_147g.2.2.2.2.2.1
theorem dX12_lovers_160 : decode cX12_lovers 160 = .ok (.bipush 24, 2) := dX12_lovers_147g.2.2.2.2.2.2.1
theorem dX12_lovers_162 : decode cX12_lovers 162 = .ok (.iload 7, 2) := dX12_lovers_147g.2.2.2.2.2.2.2.1
theorem dX12_lovers_164 : decode cX12_lovers 164 = .ok (.imul, 1) := dX12_lovers_147g.2.2.2.2.2.2.2.2.1
theorem dX12_lovers_165 : decode cX12_lovers 165 = .ok (.iload_n 1, 1) := dX12_lovers_147g.2.2.2.2.2.2.2.2.2
theorem dX12_lovers_166g : (decode cX12_lovers 166 = .ok (.iadd, 1)) ∧ (decode cX12_lovers 167 = .ok (.baload, 1)) ∧ (decode cX12_lovers 168 = .ok (.ifCond .eq 7, 3)) ∧ (decode cX12_lovers 171 = .ok (.iconst (-1), 1)) ∧ (decode cX12_lovers 172 = .ok (.goto 11, 3)) ∧ (decode cX12_lovers 175 = .ok (.aload_n 0, 1)) ∧ (decode cX12_lovers 176 = .ok (.iload_n 1, 1)) ∧ (decode cX12_lovers 177 = .ok (.iload 7, 2)) ∧ (decode cX12_lovers 179 = .ok (.iload_n 2, 1)) ∧ (decode cX12_lovers 180 = .ok (.invokevirtual 370, 3)) := by decide +kernel
theorem dX12_lovers_166 : decode cX12_lovers 166 = .ok (.iadd, 1) := dX12_lovers_166g.1
theorem dX12_lovers_167 : decode cX12_lovers 167 = .ok (.baload, 1) := dX12_lovers_166g.2.1
theorem dX12_lovers_168 : decode cX12_lovers 168 = .ok (.ifCond .eq 7, 3) := dX12_lovers_166g.2.2.1
theorem dX12_lovers_171 : decode cX12_lovers 171 = .ok (.iconst (-1), 1) := dX12_lovers_166g.2.2.2.1
theorem dX12_lovers_172 : decode cX12_lovers 172 = .ok (.goto 11, 3) := dX12_lovers_166g.2.2.2.2.1
theorem dX12_lovers_175 : decode cX12_lovers 175 = .ok (.aload_n 0, 1) := dX12_lovers_166g.2.2.2.2.2.1
theorem dX12_lovers_176 : decode cX12_lovers 176 = .ok (.iload_n 1, 1) := dX12_lovers_166g.2.2.2.2.2.2.1
theorem dX12_lovers_177 : decode cX12_lovers 177 = .ok (.iload 7, 2) := dX12_lovers_166g.2.2.2.2.2.2.2.1
theorem dX12_lovers_179 : decode cX12_lovers 179 = .ok (.iload_n 2, 1) := dX12_lovers_166g.2.2.2.2.2.2.2.2.1
theorem dX12_lovers_180 : decode cX12_lovers 180 = .ok (.invokevirtual 370, 3) := dX12_lovers_166g.2.2.2.2.2.2.2.2.2
theorem dX12_lovers_183g : (decode cX12_lovers 183 = .ok (.istore 8, 2)) ∧ (decode cX12_lovers 185 = .ok (.iload 8, 2)) ∧ (decode cX12_lovers 187 = .ok (.iconst (-1), 1)) ∧ (decode cX12_lovers 188 = .ok (.if_icmp .ne 8, 3)) ∧ (decode cX12_lovers 191 = .ok (.ldc 158, 2)) ∧ (decode cX12_lovers 193 = .ok (.goto 10, 3)) ∧ (decode cX12_lovers 196 = .ok (.aload_n 0, 1)) ∧ (decode cX12_lovers 197 = .ok (.getfield 91, 3)) ∧ (decode cX12_lovers 200 = .ok (.iload 8, 2)) ∧ (decode cX12_lovers 202 = .ok (.iaload, 1)) := by decide +kernel
theorem dX12_lovers_183 : decode cX12_lovers 183 = .ok (.istore 8, 2) := dX12_lovers_183g.1
theorem dX12_lovers_185 : decode cX12_lovers 185 = .ok (.iload 8, 2) := dX12_lovers_183g.2.1
theorem dX12_lovers_187 : decode cX12_lovers 187 = .ok (.iconst (-1), 1) := dX12_lovers_183g.2.2.1
theorem dX12_lovers_188 : decode cX12_lovers 188 = .ok (.if_icmp .ne 8, 3) := dX12_lovers_183g.2.2.2.1
theorem dX12_lovers_191 : decode cX12_lovers 191 = .ok (.ldc 158, 2) := dX12_lovers_183g.2.2.2.2.1
theorem dX12_lovers_193 : decode cX12_lovers 193 = .ok (.goto 10, 3) := dX12_lovers_183g.2.2.2.2.2.1
theorem dX12_lovers_196 : decode cX12_lovers 196 = .ok (.aload_n 0, 1) := dX12_lovers_183g.2.2.2.2.2.2.1
theorem dX12_lovers_197 : decode cX12_lovers 197 = .ok (.getfield 91, 3) := dX12_lovers_183g.2.2.2.2.2.2.2.1
theorem dX12_lovers_200 : decode cX12_lovers 200 = .ok (.iload 8, 2) := dX12_lovers_183g.2.2.2.2.2.2.2.2.1
theorem dX12_lovers_202 : decode cX12_lovers 202 = .ok (.iaload, 1) := dX12_lovers_183g.2.2.2.2.2.2.2.2.2
theorem dX12_lovers_203g : (decode cX12_lovers 203 = .ok (.istore 9, 2)) ∧ (decode cX12_lovers 205 = .ok (.iload 9, 2)) ∧ (decode cX12_lovers 207 = .ok (.iload 5, 2)) ∧ (decode cX12_lovers 209 = .ok (.if_icmp .gt 21, 3)) ∧ (decode cX12_lovers 212 = .ok (.iload 9, 2)) ∧ (decode cX12_lovers 214 = .ok (.ldc 158, 2)) ∧ (decode cX12_lovers 216 = .ok (.if_icmp .ne 6, 3)) ∧ (decode cX12_lovers 219 = .ok (.goto 11, 3)) ∧ (decode cX12_lovers 222 = .ok (.iload 9, 2)) ∧ (decode cX12_lovers 224 = .ok (.istore 5, 2)) := by decide +kernel
theorem dX12_lovers_203 : decode cX12_lovers 203 = .ok (.istore 9, 2) := dX12_lovers_203g.1
theorem dX12_lovers_205 : decode cX12_lovers 205 = .ok (.iload 9, 2) := dX12_lovers_203g.2.1
theorem dX12_lovers_207 : decode cX12_lovers 207 = .ok (.iload 5, 2) := dX12_lovers_203g.2.2.1
theorem dX12_lovers_209 : decode cX12_lovers 209 = .ok (.if_icmp .gt 21, 3) := dX12_lovers_203g.2.2.2.1
theorem dX12_lovers_212 : decode cX12_lovers 212 = .ok (.iload 9, 2) := dX12_lovers_203g.2.2.2.2.1
theorem dX12_lovers_214 : decode cX12_lovers 214 = .ok (.ldc 158, 2) := dX12_lovers_203g.2.2.2.2.2.1
theorem dX12_lovers_216 : decode cX12_lovers 216 = .ok (.if_icmp .ne 6, 3) := dX12_lovers_203g.2.2.2.2.2.2.1
theorem dX12_lovers_219 : decode cX12_lovers 219 = .ok (.goto 11, 3) := dX12_lovers_203g.2.2.2.2.2.2.2.1
theorem dX12_lovers_222 : decode cX12_lovers 222 = .ok (.iload 9, 2) := dX12_lovers_203g.2.2.2.2.2.2.2.2.1
theorem dX12_lovers_224 : decode cX12_lovers 224 = .ok (.istore 5, 2) := dX12_lovers_203g.2.2.2.2.2.2.2.2.2
theorem dX12_lovers_226g : (decode cX12_lovers 226 = .ok (.iload 7, 2)) ∧ (decode cX12_lovers 228 = .ok (.istore 6, 2)) ∧ (decode cX12_lovers 230 = .ok (.iinc 7 1, 3)) ∧ (decode cX12_lovers 233 = .ok (.goto (-84), 3)) ∧ (decode cX12_lovers 236 = .ok (.iload 5, 2)) ∧ (decode cX12_lovers 238 = .ok (.ldc 158, 2)) ∧ (decode cX12_lovers 240 = .ok (.if_icmp .ne 7, 3)) ∧ (decode cX12_lovers 243 = .ok (.iconst (-1), 1)) ∧ (decode cX12_lovers 244 = .ok (.goto 15, 3)) ∧ (decode cX12_lovers 247 = .ok (.iload 4, 2)) := by decide +kernel
theorem dX12_lovers_226 : decode cX12_lovers 226 = .ok (.iload 7, 2) := dX12_lovers_226g.1
theorem dX12_lovers_228 : decode cX12_lovers 228 = .ok (.istore 6, 2) := dX12_lovers_226g.2.1
theorem dX12_lovers_230 : decode cX12_lovers 230 = .ok (.iinc 7 1, 3) := dX12_lovers_226g.2.2.1
theorem dX12_lovers_233 : decode cX12_lovers 233 = .ok (.goto (-84), 3) := dX12_lovers_226g.2.2.2.1
theorem dX12_lovers_236 : decode cX12_lovers 236 = .ok (.iload 5, 2) := dX12_lovers_226g.2.2.2.2.1
theorem dX12_lovers_238 : decode cX12_lovers 238 = .ok (.ldc 158, 2) := dX12_lovers_226g.2.2.2.2.2.1
theorem dX12_lovers_240 : decode cX12_lovers 240 = .ok (.if_icmp .ne 7, 3) := dX12_lovers_226g.2.2.2.2.2.2.1
theorem dX12_lovers_243 : decode cX12_lovers 243 = .ok (.iconst (-1), 1) := dX12_lovers_226g.2.2.2.2.2.2.2.1
theorem dX12_lovers_244 : decode cX12_lovers 244 = .ok (.goto 15, 3) := dX12_lovers_226g.2.2.2.2.2.2.2.2.1
theorem dX12_lovers_247 : decode cX12_lovers 247 = .ok (.iload 4, 2) := dX12_lovers_226g.2.2.2.2.2.2.2.2.2
theorem dX12_lovers_249g : (decode cX12_lovers 249 = .ok (.ifCond .ne 8, 3)) ∧ (decode cX12_lovers 252 = .ok (.iload 5, 2)) ∧ (decode cX12_lovers 254 = .ok (.goto 5, 3)) ∧ (decode cX12_lovers 257 = .ok (.iload 6, 2)) ∧ (decode cX12_lovers 259 = .ok (.ireturn, 1)) := by decide +kernel
theorem dX12_lovers_249 : decode cX12_lovers 249 = .ok (.ifCond .ne 8, 3) := dX12_lovers_249g.1
theorem dX12_lovers_252 : decode cX12_lovers 252 = .ok (.iload 5, 2) := dX12_lovers_249g.2.1
theorem dX12_lovers_254 : decode cX12_lovers 254 = .ok (.goto 5, 3) := dX12_lovers_249g.2.2.1
theorem dX12_lovers_257 : decode cX12_lovers 257 = .ok (.iload 6, 2) := dX12_lovers_249g.2.2.2.1
theorem dX12_lovers_259 : decode cX12_lovers 259 = .ok (.ireturn, 1) := dX12_lovers_249g.2.2.2.2
set_option maxHeartbeats 4000000 in
set_option maxRecDepth 100000 in
theorem c_X12_lovers (l : Launch) (E : Nat → Nat) (D : va_G) (G : th_G) (h0 : Nat) (hG0 : G h0 = some (10, 0)) (x1 : Int32) (x2 : Int32) (x3 : Int32) (x4 : Int32) : Met l yX12_lovers (tb (.code yX12_lovers cX12_lovers 10 (some .int))) (rm 69) (va_Pc [.ref h0, .int x1, .int x2, .int x3, .int x4] (PX E D G (fun H => True))) (QXi E D G (fun r H => True)) 0 0 (th_A G) := by
  refine Met.ofW (cc := cX12_lovers) (maxL := 10) (ret := (some .int)) (by decide) rfl ?_
  intro p e s m args below meth c s₁ B hml hv
  obtain ⟨hav, ⟨hI, hN, hK⟩, hX⟩ := hv
  have hx := B.exec
  have hb := B.bytes
  have hr := B.returns
  have hts := atoms_spec (ws := tb (.code yX12_lovers cX12_lovers 10 (some .int))) B.pre
  have hown : s.vm.findClass RX12 = some m.cls := findClass_of_methodNamed B.named
  have hlocks := B.notSynchronized
  have hS : va_S (th_A G) s.heap s.heap [] := va_S.rf
  have hl := lv_entry ([.ref h0, .int x1, .int x2, .int x3, .int x4]) (n := 10) (Nat.le_of_ble_eq_true rfl)
  rw [show entryFrame m args 10 = entryFrame m ([.ref h0, .int x1, .int x2, .int x3, .int x4] : List Value).toArray 10 from by rw [hav], lg_entry_eq]
  generalize (lg_sl ([.ref h0, .int x1, .int x2, .int x3, .int x4]) ++ List.replicate (10 - (lg_sl ([.ref h0, .int x1, .int x2, .int x3, .int x4])).length) Slot.unset).toArray = ls at hl ⊢
  have hl : lv_has ls 10 [(0, .ref h0), (1, .int x1), (2, .int x2), (3, .int x3), (4, .int x4)] := hl
  generalize hR : (headSpec (tb (.code yX12_lovers cX12_lovers 10 (some .int))) (rm 69)).room = R
  have hR := hR.symm
  generalize hQ : MQ below (QXi E D G (fun r H => True)) args s 0 0 (th_A G) = QF
  have hQ := hQ.symm
  have J_149 : ∀ (nn : Nat) (H : Heap) (locs : List Loc) (ls : Array Slot) (v9821 : Int32) (v9822 : Int32) (v9823 : Int32) , (Int.toNat (96 - v9821.toInt) = nn) → lv_has ls 10 [(7, .int v9821), (6, .int v9822), (5, .int v9823), (0, .ref h0), (1, .int x1), (2, .int x2), (3, .int x3), (4, .int x4)] → ((0 : Int) ≤ v9821.toInt ∧ v9821.toInt ≤ 96) → ((-1 : Int) ≤ v9822.toInt ∧ v9822.toInt ≤ 95) → (v9823.toInt ≤ 1000000) → ((0 : Int) ≤ x1.toInt ∧ x1.toInt ≤ 23) → ((0 : Int) ≤ x2.toInt ∧ x2.toInt ≤ 23) → ((0 : Int) ≤ x3.toInt ∧ x3.toInt ≤ 96) → ((0 : Int) ≤ x4.toInt ∧ x4.toInt ≤ 1) → th_I (okM E) D G [] H → va_S (th_A G) s.heap H locs → W p l e R s m args below meth c H locs 0 0 QF (F0 m 149 ls []) := by
    intro nn
    induction nn using Nat.strongRecOn with
    | ind nn ih_149 =>
      intro H locs ls v9821 v9822 v9823  hm hl k9824 k9825 k9826 k9827 k9828 k9829 k9830 hI hS
      have J_230 : ∀ (H : Heap) (locs : List Loc) (ls : Array Slot) (v9831 : Int32) (v9832 : Int32) (v9834 : Int32) (v9835 : Int32) , lv_has ls 10 [(9, .int v9831), (8, .int v9832), (7, .int v9821), (6, .int v9834), (5, .int v9835), (0, .ref h0), (1, .int x1), (2, .int x2), (3, .int x3), (4, .int x4)] → ((-1 : Int) ≤ v9832.toInt ∧ v9832.toInt ≤ 96) → ((0 : Int) ≤ v9821.toInt ∧ v9821.toInt ≤ 95) → ((-1 : Int) ≤ v9834.toInt ∧ v9834.toInt ≤ 95) → (v9835.toInt ≤ 1000000) → th_I (okM E) D G [] H → va_S (th_A G) s.heap H locs → W p l e R s m args below meth c H locs 0 0 QF (F0 m 230 ls []) := by
        intro H locs ls v9831 v9832 v9834 v9835  hl k9836 k9837 k9838 k9839 hI hS
        obtain ⟨v9840, e9841⟩ : ∃ y : Int32, y = v9821 + (1) := ⟨_, rfl⟩
        have tv9840 : v9840.toInt = v9821.toInt + (1) := iv_add rfl (by decide) e9841 (by omega) (by omega)
        refine lv_iinc (v := v9840) (lv' := [(7, .int v9840), (9, .int v9831), (8, .int v9832), (6, .int v9834), (5, .int v9835), (0, .ref h0), (1, .int x1), (2, .int x2), (3, .int x3), (4, .int x4)]) hx hb dX12_lovers_230 hl (k := 2) rfl (by rw [e9841]; rfl) (by decide) rfl (fun ls hl => ?_)
        refine lv_goto (tgt := 149) hx hb dX12_lovers_233 (by decide) ?_
        exact ih_149 _ (by omega) H locs ls v9840 v9834 v9835  rfl (lv_sub hl [0, 3, 4, 5, 6, 7, 8, 9] rfl) ⟨by omega, by omega⟩ ⟨by omega, by omega⟩ (by omega) ⟨by omega, by omega⟩ ⟨by omega, by omega⟩ ⟨by omega, by omega⟩ ⟨by omega, by omega⟩ hI hS
      have J_203 : ∀ (H : Heap) (locs : List Loc) (ls : Array Slot) (v9842 : Int32) (v9846 : Int32) , lv_has ls 10 [(8, .int v9842), (7, .int v9821), (6, .int v9822), (5, .int v9823), (0, .ref h0), (1, .int x1), (2, .int x2), (3, .int x3), (4, .int x4)] → ((-1 : Int) ≤ v9842.toInt ∧ v9842.toInt ≤ 96) → ((0 : Int) ≤ v9821.toInt ∧ v9821.toInt ≤ 95) → th_I (okM E) D G [] H → va_S (th_A G) s.heap H locs → W p l e R s m args below meth c H locs 0 0 QF (F0 m 203 ls [.int v9846]) := by
        intro H locs ls v9842 v9846  hl k9847 k9848 hI hS
        refine lv_istore (lv' := [(9, .int v9846), (8, .int v9842), (7, .int v9821), (6, .int v9822), (5, .int v9823), (0, .ref h0), (1, .int x1), (2, .int x2), (3, .int x3), (4, .int x4)]) hx hb dX12_lovers_203 hl (by decide) rfl (fun ls hl => ?_)
        refine lv_iload hx hb dX12_lovers_205 (lv_at hl 0 rfl) ?_
        refine lv_iload hx hb dX12_lovers_207 (lv_at hl 4 rfl) ?_
        have k9849 := iv_lo v9846
        have k9850 := iv_hi v9846
        have k9851 := iv_lo v9823
        have k9852 := iv_hi v9823
        refine lv_icmp_gt (tgt := 230) hx hb dX12_lovers_209 (by decide) (fun c9853 => ?_) (fun c9853 => ?_)
        · skip
          have k9854 := iv_lt (X := v9823.toInt) (Y := v9846.toInt) rfl rfl c9853
          exact J_230 H locs ls v9846 v9842 v9822 v9823  (lv_sub hl [0, 1, 2, 3, 4, 5, 6, 7, 8, 9] rfl) ⟨by omega, by omega⟩ ⟨by omega, by omega⟩ ⟨by omega, by omega⟩ (by omega) hI hS
        · skip
          have k9855 := iv_nlt (X := v9823.toInt) (Y := v9846.toInt) rfl rfl c9853
          refine lv_iload hx hb dX12_lovers_212 (lv_at hl 0 rfl) ?_
          refine lv_ldc hx hb hown (hts _ (tb_c wd_1582)) dX12_lovers_214 ?_
          refine lv_icmp_ne (tgt := 222) hx hb dX12_lovers_216 (by decide) (fun c9856 => ?_) (fun c9856 => ?_)
          · skip
            have k9857 := iv_ne (X := v9846.toInt) (Y := (1000000)) rfl (by decide) c9856
            refine lv_iload hx hb dX12_lovers_222 (lv_at hl 0 rfl) ?_
            refine lv_istore (lv' := [(5, .int v9846), (9, .int v9846), (8, .int v9842), (7, .int v9821), (6, .int v9822), (0, .ref h0), (1, .int x1), (2, .int x2), (3, .int x3), (4, .int x4)]) hx hb dX12_lovers_224 hl (by decide) rfl (fun ls hl => ?_)
            refine lv_iload hx hb dX12_lovers_226 (lv_at hl 3 rfl) ?_
            refine lv_istore (lv' := [(6, .int v9821), (5, .int v9846), (9, .int v9846), (8, .int v9842), (7, .int v9821), (0, .ref h0), (1, .int x1), (2, .int x2), (3, .int x3), (4, .int x4)]) hx hb dX12_lovers_228 hl (by decide) rfl (fun ls hl => ?_)
            exact J_230 H locs ls v9846 v9842 v9821 v9846  (lv_sub hl [2, 3, 4, 0, 1, 5, 6, 7, 8, 9] rfl) ⟨by omega, by omega⟩ ⟨by omega, by omega⟩ ⟨by omega, by omega⟩ (by omega) hI hS
          · skip
            have k9858 := iv_eq (X := v9846.toInt) (Y := (1000000)) rfl (by decide) c9856
            refine lv_goto (tgt := 230) hx hb dX12_lovers_219 (by decide) ?_
            exact J_230 H locs ls v9846 v9842 v9822 v9823  (lv_sub hl [0, 1, 2, 3, 4, 5, 6, 7, 8, 9] rfl) ⟨by omega, by omega⟩ ⟨by omega, by omega⟩ ⟨by omega, by omega⟩ (by omega) hI hS
      have J_183 : ∀ (H : Heap) (locs : List Loc) (ls : Array Slot) (v9862 : Int32) , lv_has ls 10 [(7, .int v9821), (6, .int v9822), (5, .int v9823), (0, .ref h0), (1, .int x1), (2, .int x2), (3, .int x3), (4, .int x4)] → ((0 : Int) ≤ v9821.toInt ∧ v9821.toInt ≤ 95) → ((-1 : Int) ≤ v9862.toInt ∧ v9862.toInt ≤ 96) → th_I (okM E) D G [] H → va_S (th_A G) s.heap H locs → W p l e R s m args below meth c H locs 0 0 QF (F0 m 183 ls [.int v9862]) := by
        intro H locs ls v9862  hl k9863 k9864 hI hS
        refine lv_istore (lv' := [(8, .int v9862), (7, .int v9821), (6, .int v9822), (5, .int v9823), (0, .ref h0), (1, .int x1), (2, .int x2), (3, .int x3), (4, .int x4)]) hx hb dX12_lovers_183 hl (by decide) rfl (fun ls hl => ?_)
        refine lv_iload hx hb dX12_lovers_185 (lv_at hl 0 rfl) ?_
        refine lv_iconst (v := (-1)) hx hb dX12_lovers_187 (by decide) ?_
        refine lv_icmp_ne (tgt := 196) hx hb dX12_lovers_188 (by decide) (fun c9865 => ?_) (fun c9865 => ?_)
        · skip
          have k9866 := iv_ne (X := v9862.toInt) (Y := (-1)) rfl (by decide) c9865
          refine lv_aload_n hx hb dX12_lovers_196 rfl (lv_at hl 4 rfl) ?_
          refine gmA hx hb hts inT12 hown hK hI List.not_mem_nil hG0 42 (by decide) (hts _ (tb_c wd_1275)) rfl rfl dX12_lovers_197 (fun a9867 hq9868 hf9869 => ?_)
          refine lv_iload hx hb dX12_lovers_200 (lv_at hl 0 rfl) ?_
          obtain ⟨F9870, hA9871⟩ := om_0 hI hq9868 List.not_mem_nil
          refine th_iald hx hb hK hA9871 0 rfl (iv_in (X := v9862.toInt) rfl (by omega) (by omega)) dX12_lovers_202 (fun v9872 e9873 => ?_)
          exact J_203 H locs ls v9862 v9872  (lv_sub hl [0, 1, 2, 3, 4, 5, 6, 7, 8] rfl) ⟨by omega, by omega⟩ ⟨by omega, by omega⟩ hI hS
        · skip
          have k9874 := iv_eq (X := v9862.toInt) (Y := (-1)) rfl (by decide) c9865
          refine lv_ldc hx hb hown (hts _ (tb_c wd_1582)) dX12_lovers_191 ?_
          refine lv_goto (tgt := 203) hx hb dX12_lovers_193 (by decide) ?_
          exact J_203 H locs ls v9862 1000000  (lv_sub hl [0, 1, 2, 3, 4, 5, 6, 7, 8] rfl) ⟨by omega, by omega⟩ ⟨by omega, by omega⟩ hI hS
      refine lv_iload hx hb dX12_lovers_149 (lv_at hl 0 rfl) ?_
      refine lv_bipush (v := 96) hx hb dX12_lovers_151 (by decide) ?_
      refine lv_icmp_ge (tgt := 236) hx hb dX12_lovers_153 (by decide) (fun c9875 => ?_) (fun c9875 => ?_)
      · skip
        have k9876 := iv_le (X := (96)) (Y := v9821.toInt) (by decide) rfl c9875
        refine lv_iload hx hb dX12_lovers_236 (lv_at hl 2 rfl) ?_
        refine lv_ldc hx hb hown (hts _ (tb_c wd_1582)) dX12_lovers_238 ?_
        have k9877 := iv_lo v9823
        have k9878 := iv_hi v9823
        refine lv_icmp_ne (tgt := 247) hx hb dX12_lovers_240 (by decide) (fun c9879 => ?_) (fun c9879 => ?_)
        · skip
          have k9880 := iv_ne (X := v9823.toInt) (Y := (1000000)) rfl (by decide) c9879
          refine lv_iload hx hb dX12_lovers_247 (lv_at hl 7 rfl) ?_
          refine lv_if_ne (tgt := 257) hx hb dX12_lovers_249 (by decide) (fun c9881 => ?_) (fun c9881 => ?_)
          · skip
            have k9882 := iv_ne (X := x4.toInt) (Y := (0)) rfl (by decide) c9881
            refine lv_iload hx hb dX12_lovers_257 (lv_at hl 1 rfl) ?_
            have hpost : True := trivial
            rw [hQ]
            exact W.iret (v := v9822) hx hb hr (fun t ht hW => ⟨⟨v9822, v9822, rfl, rfl, ⟨by rw [ht]; exact hI, hN.warm hW, va_K.moved hW.alike hK⟩, by first | (rw [ht]; exact hpost) | exact hpost⟩, hS.F ht⟩) hS.2.2 dX12_lovers_259
          · skip
            have k9883 := iv_eq (X := x4.toInt) (Y := (0)) rfl (by decide) c9881
            refine lv_iload hx hb dX12_lovers_252 (lv_at hl 2 rfl) ?_
            refine lv_goto (tgt := 259) hx hb dX12_lovers_254 (by decide) ?_
            have hpost : True := trivial
            rw [hQ]
            exact W.iret (v := v9823) hx hb hr (fun t ht hW => ⟨⟨v9823, v9823, rfl, rfl, ⟨by rw [ht]; exact hI, hN.warm hW, va_K.moved hW.alike hK⟩, by first | (rw [ht]; exact hpost) | exact hpost⟩, hS.F ht⟩) hS.2.2 dX12_lovers_259
        · skip
          have k9884 := iv_eq (X := v9823.toInt) (Y := (1000000)) rfl (by decide) c9879
          refine lv_iconst (v := (-1)) hx hb dX12_lovers_243 (by decide) ?_
          refine lv_goto (tgt := 259) hx hb dX12_lovers_244 (by decide) ?_
          have hpost : True := trivial
          rw [hQ]
          exact W.iret (v := (-1)) hx hb hr (fun t ht hW => ⟨⟨(-1), (-1), rfl, rfl, ⟨by rw [ht]; exact hI, hN.warm hW, va_K.moved hW.alike hK⟩, by first | (rw [ht]; exact hpost) | exact hpost⟩, hS.F ht⟩) hS.2.2 dX12_lovers_259
      · skip
        have k9885 := iv_nle (X := (96)) (Y := v9821.toInt) (by decide) rfl c9875
        refine lv_aload_n hx hb dX12_lovers_156 rfl (lv_at hl 3 rfl) ?_
        refine gmA hx hb hts inT12 hown hK hI List.not_mem_nil hG0 26 (by decide) (hts _ (tb_c wd_1259)) rfl rfl dX12_lovers_157 (fun a9886 hq9887 hf9888 => ?_)
        refine lv_bipush (v := 24) hx hb dX12_lovers_160 (by decide) ?_
        refine lv_iload hx hb dX12_lovers_162 (lv_at hl 0 rfl) ?_
        refine lv_imul hx hb dX12_lovers_164 ?_
        refine lv_topi (fun v9889 e9890 => ?_)
        have tv9889 : v9889.toInt = (24) * v9821.toInt := iv_mul (by decide) rfl e9890 (by omega) (by omega)
        refine lv_iload_n hx hb dX12_lovers_165 rfl (lv_at hl 4 rfl) ?_
        refine lv_iadd hx hb dX12_lovers_166 ?_
        refine lv_topi (fun v9891 e9892 => ?_)
        have tv9891 : v9891.toInt = v9889.toInt + x1.toInt := iv_add rfl rfl e9892 (by omega) (by omega)
        obtain ⟨F9893, hA9894⟩ := om_5 hI hq9887 List.not_mem_nil
        refine va_zald hx hb hK (th_one hA9894) 0 2 rfl rfl (iv_in (X := v9891.toInt) rfl (by omega) (by omega)) dX12_lovers_167 ?_
        refine lv_topi (fun v9895 e9896 => ?_)
        have k9897 := iv_lo v9895
        have k9898 := iv_hi v9895
        refine lv_if_eq (tgt := 175) hx hb dX12_lovers_168 (by decide) (fun c9899 => ?_) (fun c9899 => ?_)
        · skip
          have k9900 := iv_eq (X := v9895.toInt) (Y := (0)) rfl (by decide) c9899
          refine lv_aload_n hx hb dX12_lovers_175 rfl (lv_at hl 3 rfl) ?_
          refine lv_iload_n hx hb dX12_lovers_176 rfl (lv_at hl 4 rfl) ?_
          refine lv_iload hx hb dX12_lovers_177 (lv_at hl 0 rfl) ?_
          refine lv_iload_n hx hb dX12_lovers_179 rfl (lv_at hl 5 rfl) ?_
          refine mr_i (As := [.int x1, .int v9821, .int x2]) (rest := []) (n := 3) (d := 1) ⟨hx, hb, hml, hown, hts⟩ (c_X12_firstAt l E D G H h0 hG0 x1 v9821 x2 ⟨by omega, by omega⟩ (by omega)) wd_1800 wd_1802 wp_90 wd_13 wd_1803 (by decide +kernel) ⟨by rw [hR]; exact Nat.le_of_ble_eq_true rfl, by rw [hR]; exact Nat.le_of_ble_eq_true rfl⟩ hI hN hK hS hG0 rfl hl.1 rfl (Nat.le_of_ble_eq_true rfl) dX12_lovers_180 ⟨Nat.zero_le _, Nat.zero_le _⟩ (fun r9901 locs hp hS => ?_)
          have hp9902 := hp
          exact J_183 H locs ls r9901  (lv_sub hl [0, 1, 2, 3, 4, 5, 6, 7] rfl) ⟨by omega, by omega⟩ ⟨by omega, by omega⟩ hI hS
        · skip
          have k9903 := iv_ne (X := v9895.toInt) (Y := (0)) rfl (by decide) c9899
          refine lv_iconst (v := (-1)) hx hb dX12_lovers_171 (by decide) ?_
          refine lv_goto (tgt := 183) hx hb dX12_lovers_172 (by decide) ?_
          exact J_183 H locs ls (-1)  (lv_sub hl [0, 1, 2, 3, 4, 5, 6, 7] rfl) ⟨by omega, by omega⟩ ⟨by decide, by decide⟩ hI hS
  have J_57 : ∀ (nn : Nat) (H : Heap) (locs : List Loc) (ls : Array Slot) (v9904 : Int32) , (Int.toNat (v9904.toInt - (-1)) = nn) → lv_has ls 10 [(5, .int v9904), (0, .ref h0), (1, .int x1), (2, .int x2), (3, .int x3), (4, .int x4)] → ((-1 : Int) ≤ v9904.toInt ∧ v9904.toInt ≤ 95) → ((0 : Int) ≤ x1.toInt ∧ x1.toInt ≤ 23) → ((0 : Int) ≤ x2.toInt ∧ x2.toInt ≤ 23) → ((0 : Int) ≤ x3.toInt ∧ x3.toInt ≤ 96) → ((0 : Int) ≤ x4.toInt ∧ x4.toInt ≤ 1) → th_I (okM E) D G [] H → va_S (th_A G) s.heap H locs → W p l e R s m args below meth c H locs 0 0 QF (F0 m 57 ls []) := by
    intro nn
    induction nn using Nat.strongRecOn with
    | ind nn ih_57 =>
      intro H locs ls v9904  hm hl k9905 k9906 k9907 k9908 k9909 hI hS
      have J_132 : ∀ (H : Heap) (locs : List Loc) (ls : Array Slot) (v9910 : Int32) (v9912 : Int32) (v9913 : Int32) (a9914 : Nat) , lv_has ls 10 [(6, .int v9910), (5, .int v9904), (0, .ref h0), (1, .int x1), (2, .int x2), (3, .int x3), (4, .int x4)] → ((-1 : Int) ≤ v9910.toInt ∧ v9910.toInt ≤ 96) → ((0 : Int) ≤ v9904.toInt ∧ v9904.toInt ≤ 95) → ((0 : Int) ≤ x3.toInt ∧ x3.toInt ≤ 95) → ((0 : Int) ≤ v9913.toInt ∧ v9913.toInt ≤ 95) → G a9914 = some (0, 98) → th_I (okM E) D G [] H → va_S (th_A G) s.heap H locs → W p l e R s m args below meth c H locs 0 0 QF (F0 m 132 ls [.int v9912, .int v9913, .ref a9914]) := by
        intro H locs ls v9910 v9912 v9913 a9914  hl k9915 k9916 k9917 k9918 ha9914 hI hS
        obtain ⟨F9919, hA9920⟩ := om_0 hI ha9914 List.not_mem_nil
        refine th_iast hx hb hK hA9920 0 rfl hS ⟨_, ha9914⟩ (iv_in (X := v9913.toInt) rfl (by omega) (by omega)) dX12_lovers_132 (fun H locs hA9921 oq hS => ?_)
        have hI := th_I.put hI ha9914 hA9921 ok_m0 oq
        obtain ⟨v9922, e9923⟩ : ∃ y : Int32, y = v9904 + (-1) := ⟨_, rfl⟩
        have tv9922 : v9922.toInt = v9904.toInt + (-1) := iv_add rfl (by decide) e9923 (by omega) (by omega)
        refine lv_iinc (v := v9922) (lv' := [(5, .int v9922), (6, .int v9910), (0, .ref h0), (1, .int x1), (2, .int x2), (3, .int x3), (4, .int x4)]) hx hb dX12_lovers_133 hl (k := 1) rfl (by rw [e9923]; rfl) (by decide) rfl (fun ls hl => ?_)
        refine lv_goto (tgt := 57) hx hb dX12_lovers_136 (by decide) ?_
        exact ih_57 _ (by omega) H locs ls v9922  rfl (lv_sub hl [0, 2, 3, 4, 5, 6] rfl) ⟨by omega, by omega⟩ ⟨by omega, by omega⟩ ⟨by omega, by omega⟩ ⟨by omega, by omega⟩ ⟨by omega, by omega⟩ hI hS
      have J_123 : ∀ (H : Heap) (locs : List Loc) (ls : Array Slot) (v9924 : Int32) (v9926 : Int32) (a9927 : Nat) , lv_has ls 10 [(6, .int v9924), (5, .int v9904), (0, .ref h0), (1, .int x1), (2, .int x2), (3, .int x3), (4, .int x4)] → ((-1 : Int) ≤ v9924.toInt ∧ v9924.toInt ≤ 96) → ((0 : Int) ≤ v9904.toInt ∧ v9904.toInt ≤ 95) → ((0 : Int) ≤ x3.toInt ∧ x3.toInt ≤ 95) → ((0 : Int) ≤ v9926.toInt ∧ v9926.toInt ≤ 95) → G a9927 = some (0, 98) → th_I (okM E) D G [] H → va_S (th_A G) s.heap H locs → W p l e R s m args below meth c H locs 0 0 QF (F0 m 123 ls [.int v9926, .ref a9927]) := by
        intro H locs ls v9924 v9926 a9927  hl k9928 k9929 k9930 k9931 ha9927 hI hS
        refine lv_aload_n hx hb dX12_lovers_123 rfl (lv_at hl 2 rfl) ?_
        refine gmA hx hb hts inT12 hown hK hI List.not_mem_nil hG0 42 (by decide) (hts _ (tb_c wd_1275)) rfl rfl dX12_lovers_124 (fun a9932 hq9933 hf9934 => ?_)
        refine lv_iload hx hb dX12_lovers_127 (lv_at hl 1 rfl) ?_
        refine lv_iconst (v := 1) hx hb dX12_lovers_129 (by decide) ?_
        refine lv_iadd hx hb dX12_lovers_130 ?_
        refine lv_topi (fun v9935 e9936 => ?_)
        have tv9935 : v9935.toInt = v9904.toInt + (1) := iv_add rfl (by decide) e9936 (by omega) (by omega)
        obtain ⟨F9937, hA9938⟩ := om_0 hI hq9933 List.not_mem_nil
        refine th_iald hx hb hK hA9938 0 rfl (iv_in (X := v9935.toInt) rfl (by omega) (by omega)) dX12_lovers_131 (fun v9939 e9940 => ?_)
        exact J_132 H locs ls v9924 v9939 v9926 a9927  (lv_sub hl [0, 1, 2, 3, 4, 5, 6] rfl) ⟨by omega, by omega⟩ ⟨by omega, by omega⟩ ⟨by omega, by omega⟩ ⟨by omega, by omega⟩ ha9927 hI hS
      have J_90 : ∀ (H : Heap) (locs : List Loc) (ls : Array Slot) (v9942 : Int32) , lv_has ls 10 [(5, .int v9904), (0, .ref h0), (1, .int x1), (2, .int x2), (3, .int x3), (4, .int x4)] → ((0 : Int) ≤ v9904.toInt ∧ v9904.toInt ≤ 95) → ((0 : Int) ≤ x3.toInt ∧ x3.toInt ≤ 95) → ((-1 : Int) ≤ v9942.toInt ∧ v9942.toInt ≤ 96) → th_I (okM E) D G [] H → va_S (th_A G) s.heap H locs → W p l e R s m args below meth c H locs 0 0 QF (F0 m 90 ls [.int v9942]) := by
        intro H locs ls v9942  hl k9943 k9944 k9945 hI hS
        refine lv_istore (lv' := [(6, .int v9942), (5, .int v9904), (0, .ref h0), (1, .int x1), (2, .int x2), (3, .int x3), (4, .int x4)]) hx hb dX12_lovers_90 hl (by decide) rfl (fun ls hl => ?_)
        refine lv_aload_n hx hb dX12_lovers_92 rfl (lv_at hl 2 rfl) ?_
        refine gmA hx hb hts inT12 hown hK hI List.not_mem_nil hG0 42 (by decide) (hts _ (tb_c wd_1275)) rfl rfl dX12_lovers_93 (fun a9946 hq9947 hf9948 => ?_)
        refine lv_iload hx hb dX12_lovers_96 (lv_at hl 1 rfl) ?_
        refine lv_iload hx hb dX12_lovers_98 (lv_at hl 0 rfl) ?_
        refine lv_iconst (v := (-1)) hx hb dX12_lovers_100 (by decide) ?_
        refine lv_icmp_eq (tgt := 123) hx hb dX12_lovers_101 (by decide) (fun c9949 => ?_) (fun c9949 => ?_)
        · skip
          have k9950 := iv_eq (X := v9942.toInt) (Y := (-1)) rfl (by decide) c9949
          exact J_123 H locs ls v9942 v9904 a9946  (lv_sub hl [0, 1, 2, 3, 4, 5, 6] rfl) ⟨by omega, by omega⟩ ⟨by omega, by omega⟩ ⟨by omega, by omega⟩ ⟨by omega, by omega⟩ hq9947 hI hS
        · skip
          have k9951 := iv_ne (X := v9942.toInt) (Y := (-1)) rfl (by decide) c9949
          refine lv_iload hx hb dX12_lovers_104 (lv_at hl 0 rfl) ?_
          refine lv_aload_n hx hb dX12_lovers_106 rfl (lv_at hl 2 rfl) ?_
          refine gmA hx hb hts inT12 hown hK hI List.not_mem_nil hG0 42 (by decide) (hts _ (tb_c wd_1275)) rfl rfl dX12_lovers_107 (fun a9952 hq9953 hf9954 => ?_)
          obtain rfl := fr.uniq (by decide) hf9948 hf9954
          refine lv_iload hx hb dX12_lovers_110 (lv_at hl 1 rfl) ?_
          refine lv_iconst (v := 1) hx hb dX12_lovers_112 (by decide) ?_
          refine lv_iadd hx hb dX12_lovers_113 ?_
          refine lv_topi (fun v9955 e9956 => ?_)
          have tv9955 : v9955.toInt = v9904.toInt + (1) := iv_add rfl (by decide) e9956 (by omega) (by omega)
          obtain ⟨F9957, hA9958⟩ := om_0 hI hq9947 List.not_mem_nil
          refine th_iald hx hb hK hA9958 0 rfl (iv_in (X := v9955.toInt) rfl (by omega) (by omega)) dX12_lovers_114 (fun v9959 e9960 => ?_)
          have k9961 := iv_lo v9959
          have k9962 := iv_hi v9959
          refine lv_icmp_ge (tgt := 123) hx hb dX12_lovers_115 (by decide) (fun c9963 => ?_) (fun c9963 => ?_)
          · skip
            have k9964 := iv_le (X := v9959.toInt) (Y := v9942.toInt) rfl rfl c9963
            exact J_123 H locs ls v9942 v9904 a9946  (lv_sub hl [0, 1, 2, 3, 4, 5, 6] rfl) ⟨by omega, by omega⟩ ⟨by omega, by omega⟩ ⟨by omega, by omega⟩ ⟨by omega, by omega⟩ hq9947 hI hS
          · skip
            have k9965 := iv_nle (X := v9959.toInt) (Y := v9942.toInt) rfl rfl c9963
            refine lv_iload hx hb dX12_lovers_118 (lv_at hl 0 rfl) ?_
            refine lv_goto (tgt := 132) hx hb dX12_lovers_120 (by decide) ?_
            exact J_132 H locs ls v9942 v9942 v9904 a9946  (lv_sub hl [0, 1, 2, 3, 4, 5, 6] rfl) ⟨by omega, by omega⟩ ⟨by omega, by omega⟩ ⟨by omega, by omega⟩ ⟨by omega, by omega⟩ hq9947 hI hS
      refine lv_iload hx hb dX12_lovers_57 (lv_at hl 0 rfl) ?_
      refine lv_iload_n hx hb dX12_lovers_59 rfl (lv_at hl 4 rfl) ?_
      refine lv_icmp_lt (tgt := 139) hx hb dX12_lovers_60 (by decide) (fun c9966 => ?_) (fun c9966 => ?_)
      · skip
        have k9967 := iv_lt (X := v9904.toInt) (Y := x3.toInt) rfl rfl c9966
        refine lv_ldc hx hb hown (hts _ (tb_c wd_1582)) dX12_lovers_139 ?_
        refine lv_istore (lv' := [(5, .int 1000000), (0, .ref h0), (1, .int x1), (2, .int x2), (3, .int x3), (4, .int x4)]) hx hb dX12_lovers_141 hl (by decide) rfl (fun ls hl => ?_)
        refine lv_iconst (v := (-1)) hx hb dX12_lovers_143 (by decide) ?_
        refine lv_istore (lv' := [(6, .int (-1)), (5, .int 1000000), (0, .ref h0), (1, .int x1), (2, .int x2), (3, .int x3), (4, .int x4)]) hx hb dX12_lovers_144 hl (by decide) rfl (fun ls hl => ?_)
        refine lv_iload_n hx hb dX12_lovers_146 rfl (lv_at hl 5 rfl) ?_
        refine lv_istore (lv' := [(7, .int x3), (6, .int (-1)), (5, .int 1000000), (0, .ref h0), (1, .int x1), (2, .int x2), (3, .int x3), (4, .int x4)]) hx hb dX12_lovers_147 hl (by decide) rfl (fun ls hl => ?_)
        exact J_149 _ H locs ls x3 (-1) 1000000  rfl (lv_sub hl [0, 1, 2, 3, 4, 5, 6, 7] rfl) ⟨by omega, by omega⟩ ⟨by decide, by decide⟩ (by decide) ⟨by omega, by omega⟩ ⟨by omega, by omega⟩ ⟨by omega, by omega⟩ ⟨by omega, by omega⟩ hI hS
      · skip
        have k9968 := iv_nlt (X := v9904.toInt) (Y := x3.toInt) rfl rfl c9966
        refine lv_aload_n hx hb dX12_lovers_63 rfl (lv_at hl 1 rfl) ?_
        refine gmA hx hb hts inT12 hown hK hI List.not_mem_nil hG0 26 (by decide) (hts _ (tb_c wd_1259)) rfl rfl dX12_lovers_64 (fun a9969 hq9970 hf9971 => ?_)
        refine lv_bipush (v := 24) hx hb dX12_lovers_67 (by decide) ?_
        refine lv_iload hx hb dX12_lovers_69 (lv_at hl 0 rfl) ?_
        refine lv_imul hx hb dX12_lovers_71 ?_
        refine lv_topi (fun v9972 e9973 => ?_)
        have tv9972 : v9972.toInt = (24) * v9904.toInt := iv_mul (by decide) rfl e9973 (by omega) (by omega)
        refine lv_iload_n hx hb dX12_lovers_72 rfl (lv_at hl 3 rfl) ?_
        refine lv_iadd hx hb dX12_lovers_73 ?_
        refine lv_topi (fun v9974 e9975 => ?_)
        have tv9974 : v9974.toInt = v9972.toInt + x2.toInt := iv_add rfl rfl e9975 (by omega) (by omega)
        obtain ⟨F9976, hA9977⟩ := om_5 hI hq9970 List.not_mem_nil
        refine va_zald hx hb hK (th_one hA9977) 0 2 rfl rfl (iv_in (X := v9974.toInt) rfl (by omega) (by omega)) dX12_lovers_74 ?_
        refine lv_topi (fun v9978 e9979 => ?_)
        have k9980 := iv_lo v9978
        have k9981 := iv_hi v9978
        refine lv_if_eq (tgt := 82) hx hb dX12_lovers_75 (by decide) (fun c9982 => ?_) (fun c9982 => ?_)
        · skip
          have k9983 := iv_eq (X := v9978.toInt) (Y := (0)) rfl (by decide) c9982
          refine lv_aload_n hx hb dX12_lovers_82 rfl (lv_at hl 1 rfl) ?_
          refine lv_iload_n hx hb dX12_lovers_83 rfl (lv_at hl 3 rfl) ?_
          refine lv_iload hx hb dX12_lovers_84 (lv_at hl 0 rfl) ?_
          refine lv_iload_n hx hb dX12_lovers_86 rfl (lv_at hl 2 rfl) ?_
          refine mr_i (As := [.int x2, .int v9904, .int x1]) (rest := []) (n := 3) (d := 1) ⟨hx, hb, hml, hown, hts⟩ (c_X12_firstAt l E D G H h0 hG0 x2 v9904 x1 ⟨by omega, by omega⟩ (by omega)) wd_1800 wd_1802 wp_90 wd_13 wd_1803 (by decide +kernel) ⟨by rw [hR]; exact Nat.le_of_ble_eq_true rfl, by rw [hR]; exact Nat.le_of_ble_eq_true rfl⟩ hI hN hK hS hG0 rfl hl.1 rfl (Nat.le_of_ble_eq_true rfl) dX12_lovers_87 ⟨Nat.zero_le _, Nat.zero_le _⟩ (fun r9984 locs hp hS => ?_)
          have hp9985 := hp
          exact J_90 H locs ls r9984  (lv_sub hl [0, 1, 2, 3, 4, 5] rfl) ⟨by omega, by omega⟩ ⟨by omega, by omega⟩ ⟨by omega, by omega⟩ hI hS
        · skip
          have k9986 := iv_ne (X := v9978.toInt) (Y := (0)) rfl (by decide) c9982
          refine lv_iconst (v := (-1)) hx hb dX12_lovers_78 (by decide) ?_
          refine lv_goto (tgt := 90) hx hb dX12_lovers_79 (by decide) ?_
          exact J_90 H locs ls (-1)  (lv_sub hl [0, 1, 2, 3, 4, 5] rfl) ⟨by omega, by omega⟩ ⟨by omega, by omega⟩ ⟨by decide, by decide⟩ hI hS
  have J_31 : ∀ (H : Heap) (locs : List Loc) (ls : Array Slot)  , lv_has ls 10 [(0, .ref h0), (1, .int x1), (2, .int x2), (3, .int x3), (4, .int x4)] → th_I (okM E) D G [] H → va_S (th_A G) s.heap H locs → W p l e R s m args below meth c H locs 0 0 QF (F0 m 31 ls []) := by
    intro H locs ls   hl  hI hS
    refine lv_iconst (v := (-1)) hx hb dX12_lovers_31 (by decide) ?_
    have hpost : True := trivial
    rw [hQ]
    exact W.iret (v := (-1)) hx hb hr (fun t ht hW => ⟨⟨(-1), (-1), rfl, rfl, ⟨by rw [ht]; exact hI, hN.warm hW, va_K.moved hW.alike hK⟩, by first | (rw [ht]; exact hpost) | exact hpost⟩, hS.F ht⟩) hS.2.2 dX12_lovers_32
  refine lv_iload_n hx hb dX12_lovers_0 rfl (lv_at hl 1 rfl) ?_
  refine th_cSs (As := [.int x1]) (rest := []) (n := 1) (d := 1) ⟨hx, hb, hml, hown, hts⟩ (c_X12_isCell l s.heap x1) wd_1414 wd_1415 wd_13 wd_1416 (by decide +kernel) ⟨by rw [hR]; exact Nat.le_of_ble_eq_true rfl, by rw [hR]; exact Nat.le_of_ble_eq_true rfl⟩ hN hS rfl hl.1 rfl (Nat.le_of_ble_eq_true rfl) dX12_lovers_1 ⟨Nat.zero_le _, Nat.zero_le _⟩ (fun r9987 locs hp hS => ?_)
  rcases hp with ⟨rfl, hp⟩ | ⟨rfl, hp⟩
  · skip
    try simp only [rg, not_and, Int.not_le] at hp
    have hp9988 := hp
    refine lv_if_eq (tgt := 31) hx hb dX12_lovers_4 (by decide) (fun c => absurd c (by decide)) (fun _ => ?_)
    refine lv_iload_n hx hb dX12_lovers_7 rfl (lv_at hl 2 rfl) ?_
    refine th_cSs (As := [.int x2]) (rest := []) (n := 1) (d := 1) ⟨hx, hb, hml, hown, hts⟩ (c_X12_isCell l s.heap x2) wd_1414 wd_1415 wd_13 wd_1416 (by decide +kernel) ⟨by rw [hR]; exact Nat.le_of_ble_eq_true rfl, by rw [hR]; exact Nat.le_of_ble_eq_true rfl⟩ hN hS rfl hl.1 rfl (Nat.le_of_ble_eq_true rfl) dX12_lovers_8 ⟨Nat.zero_le _, Nat.zero_le _⟩ (fun r9989 locs hp hS => ?_)
    rcases hp with ⟨rfl, hp⟩ | ⟨rfl, hp⟩
    · skip
      try simp only [rg, not_and, Int.not_le] at hp
      have hp9990 := hp
      refine lv_if_eq (tgt := 31) hx hb dX12_lovers_11 (by decide) (fun c => absurd c (by decide)) (fun _ => ?_)
      refine lv_iload_n hx hb dX12_lovers_14 rfl (lv_at hl 3 rfl) ?_
      refine th_cSs (As := [.int x3]) (rest := []) (n := 1) (d := 1) ⟨hx, hb, hml, hown, hts⟩ (c_X12_isTime l s.heap x3) wd_1655 wd_1656 wd_13 wd_1657 (by decide +kernel) ⟨by rw [hR]; exact Nat.le_of_ble_eq_true rfl, by rw [hR]; exact Nat.le_of_ble_eq_true rfl⟩ hN hS rfl hl.1 rfl (Nat.le_of_ble_eq_true rfl) dX12_lovers_15 ⟨Nat.zero_le _, Nat.zero_le _⟩ (fun r9991 locs hp hS => ?_)
      rcases hp with ⟨rfl, hp⟩ | ⟨rfl, hp⟩
      · skip
        try simp only [rg, not_and, Int.not_le] at hp
        have hp9992 := hp
        refine lv_if_eq (tgt := 31) hx hb dX12_lovers_18 (by decide) (fun c => absurd c (by decide)) (fun _ => ?_)
        refine lv_iload hx hb dX12_lovers_21 (lv_at hl 4 rfl) ?_
        refine lv_iconst (v := 0) hx hb dX12_lovers_23 (by decide) ?_
        refine lv_iconst (v := 1) hx hb dX12_lovers_24 (by decide) ?_
        refine th_cSs (As := [.int x4, .int 0, .int 1]) (rest := []) (n := 3) (d := 0) ⟨hx, hb, hml, hown, hts⟩ (c_X12_lies l s.heap x4 0 1) wd_1395 wd_1396 wd_13 wd_1397 (by decide +kernel) ⟨by rw [hR]; exact Nat.le_of_ble_eq_true rfl, by rw [hR]; exact Nat.le_of_ble_eq_true rfl⟩ hN hS rfl hl.1 rfl (Nat.le_of_ble_eq_true rfl) dX12_lovers_25 ⟨Nat.zero_le _, Nat.zero_le _⟩ (fun r9993 locs hp hS => ?_)
        rcases hp with ⟨rfl, hp⟩ | ⟨rfl, hp⟩
        · skip
          try simp only [rg, not_and, Int.not_le] at hp
          have hp9994 := hp
          try rw [show (0 : Int32).toInt = 0 from by decide] at hp9994
          try rw [show (1 : Int32).toInt = 1 from by decide] at hp9994
          refine lv_if_ne (tgt := 33) hx hb dX12_lovers_28 (by decide) (fun _ => ?_) (fun c => absurd c (by decide))
          refine lv_iload_n hx hb dX12_lovers_33 rfl (lv_at hl 1 rfl) ?_
          refine lv_iload_n hx hb dX12_lovers_34 rfl (lv_at hl 2 rfl) ?_
          refine lv_icmp_ne (tgt := 40) hx hb dX12_lovers_35 (by decide) (fun c9995 => ?_) (fun c9995 => ?_)
          · skip
            have k9996 := iv_ne (X := x1.toInt) (Y := x2.toInt) rfl rfl c9995
            refine lv_aload_n hx hb dX12_lovers_40 rfl (lv_at hl 0 rfl) ?_
            refine mx_v (As := []) (rest := []) (n := 0) (d := 68) ⟨hx, hb, hml, hown, hts⟩ (c_X12_looks l E D G h0 hG0 ) wd_1455 wd_1457 wp_43 wd_13 wd_1458 (by decide +kernel) ⟨by rw [hR]; exact Nat.le_of_ble_eq_true rfl, by rw [hR]; exact Nat.le_of_ble_eq_true rfl⟩ hI hN hK hS hG0 (trivial) rfl hl.1 rfl (Nat.le_of_ble_eq_true rfl) dX12_lovers_41 ⟨Nat.zero_le _, Nat.zero_le _⟩ (fun H locs hI hp hS => ?_)
            refine lv_aload_n hx hb dX12_lovers_44 rfl (lv_at hl 0 rfl) ?_
            refine gmA hx hb hts inT12 hown hK hI List.not_mem_nil hG0 42 (by decide) (hts _ (tb_c wd_1275)) rfl rfl dX12_lovers_45 (fun a9998 hq9999 hf10000 => ?_)
            refine lv_bipush (v := 96) hx hb dX12_lovers_48 (by decide) ?_
            refine lv_ldc hx hb hown (hts _ (tb_c wd_1582)) dX12_lovers_50 ?_
            obtain ⟨F10001, hA10002⟩ := om_0 hI hq9999 List.not_mem_nil
            refine th_iast hx hb hK hA10002 0 rfl hS ⟨_, hq9999⟩ (iv_in (X := (96)) (by decide) (by omega) (by omega)) dX12_lovers_52 (fun H locs hA10003 oq hS => ?_)
            have hI := th_I.put hI hq9999 hA10003 ok_m0 oq
            have hf10000 := fr.arr hG0 hq9999 (by decide) oq hf10000
            have e10004 : 1000000 = (upd F10001 (96 : Int32).toNatClampNeg 1000000) (96 : Int32).toNatClampNeg := rd_us
            refine lv_bipush (v := 95) hx hb dX12_lovers_53 (by decide) ?_
            refine lv_istore (lv' := [(5, .int 95), (0, .ref h0), (1, .int x1), (2, .int x2), (3, .int x3), (4, .int x4)]) hx hb dX12_lovers_55 hl (by decide) rfl (fun ls hl => ?_)
            have zl : (95 : Int32).toInt = 95 := by decide
            exact J_57 _ H locs ls 95  rfl (lv_sub hl [0, 1, 2, 3, 4, 5] rfl) ⟨by decide, by decide⟩ ⟨by omega, by omega⟩ ⟨by omega, by omega⟩ ⟨by omega, by omega⟩ ⟨by omega, by omega⟩ hI hS
          · skip
            have k10005 := iv_eq (X := x1.toInt) (Y := x2.toInt) rfl rfl c9995
            refine lv_iload_n hx hb dX12_lovers_38 rfl (lv_at hl 3 rfl) ?_
            have hpost : True := trivial
            rw [hQ]
            exact W.iret (v := x3) hx hb hr (fun t ht hW => ⟨⟨x3, x3, rfl, rfl, ⟨by rw [ht]; exact hI, hN.warm hW, va_K.moved hW.alike hK⟩, by first | (rw [ht]; exact hpost) | exact hpost⟩, hS.F ht⟩) hS.2.2 dX12_lovers_39
        · skip
          try simp only [rg, not_and, Int.not_le] at hp
          have hp10006 := hp
          try rw [show (0 : Int32).toInt = 0 from by decide] at hp10006
          try rw [show (1 : Int32).toInt = 1 from by decide] at hp10006
          refine lv_if_ne (tgt := 33) hx hb dX12_lovers_28 (by decide) (fun c => absurd c (by decide)) (fun _ => ?_)
          exact J_31 s.heap locs ls   (lv_sub hl [0, 1, 2, 3, 4] rfl)  hI hS
      · skip
        try simp only [rg, not_and, Int.not_le] at hp
        have hp10007 := hp
        refine lv_if_eq (tgt := 31) hx hb dX12_lovers_18 (by decide) (fun _ => ?_) (fun c => absurd c (by decide))
        exact J_31 s.heap locs ls   (lv_sub hl [0, 1, 2, 3, 4] rfl)  hI hS
    · skip
      try simp only [rg, not_and, Int.not_le] at hp
      have hp10008 := hp
      refine lv_if_eq (tgt := 31) hx hb dX12_lovers_11 (by decide) (fun _ => ?_) (fun c => absurd c (by decide))
      exact J_31 s.heap locs ls   (lv_sub hl [0, 1, 2, 3, 4] rfl)  hI hS
  · skip
    try simp only [rg, not_and, Int.not_le] at hp
    have hp10009 := hp
    refine lv_if_eq (tgt := 31) hx hb dX12_lovers_4 (by decide) (fun _ => ?_) (fun c => absurd c (by decide))
    exact J_31 s.heap locs ls   (lv_sub hl [0, 1, 2, 3, 4] rfl)  hI hS
theorem dX12_matters_0g : (decode cX12_matters 0 = .ok (.iload_n 1, 1)) ∧ (decode cX12_matters 1 = .ok (.invokestatic 118, 3)) ∧ (decode cX12_matters 4 = .ok (.ifCond .eq 26, 3)) ∧ (decode cX12_matters 7 = .ok (.iload_n 2, 1)) ∧ (decode cX12_matters 8 = .ok (.invokestatic 298, 3)) ∧ (decode cX12_matters 11 = .ok (.ifCond .eq 19, 3)) ∧ (decode cX12_matters 14 = .ok (.iload_n 3, 1)) ∧ (decode cX12_matters 15 = .ok (.iload_n 2, 1)) ∧ (decode cX12_matters 16 = .ok (.bipush 96, 2)) ∧ (decode cX12_matters 18 = .ok (.invokestatic 103, 3)) := by decide +kernel
theorem dX12_matters_0 : decode cX12_matters 0 = .ok (.iload_n 1, 1) := dX12_matters_0g.1
theorem dX12_matters_1 : decode cX12_matters 1 = .ok (.invokestatic 118, 3) := dX12_matters_0g.2.1
theorem dX12_matters_4 : decode cX12_matters 4 = .ok (.ifCond .eq 26, 3) := dX12_matters_0g.2.2.1
theorem dX12_matters_7 : decode cX12_matters 7 = .ok (.iload_n 2, 1) := dX12_matters_0g.2.2.2.1
theorem dX12_matters_8 : decode cX12_matters 8 = .ok (.invokestatic 298, 3) := dX12_matters_0g.2.2.2.2.1
theorem dX12_matters_11 : decode cX12_matters 11 = .ok (.ifCond .eq 19, 3) := dX12_matters_0g.2.2.2.2.2.1
theorem dX12_matters_14 : decode cX12_matters 14 = .ok (.iload_n 3, 1) := dX12_matters_0g.2.2.2.2.2.2.1
theorem dX12_matters_15 : decode cX12_matters 15 = .ok (.iload_n 2, 1) := dX12_matters_0g.2.2.2.2.2.2.2.1
theorem dX12_matters_16 : decode cX12_matters 16 = .ok (.bipush 96, 2) := dX12_matters_0g.2.2.2.2.2.2.2.2.1
theorem dX12_matters_18 : decode cX12_matters 18 = .ok (.invokestatic 103, 3) := dX12_matters_0g.2.2.2.2.2.2.2.2.2
theorem dX12_matters_21g : (decode cX12_matters 21 = .ok (.ifCond .eq 9, 3)) ∧ (decode cX12_matters 24 = .ok (.iload 4, 2)) ∧ (decode cX12_matters 26 = .ok (.iconst (-1), 1)) ∧ (decode cX12_matters 27 = .ok (.if_icmp .ge 5, 3)) ∧ (decode cX12_matters 30 = .ok (.iconst (-1), 1)) ∧ (decode cX12_matters 31 = .ok (.ireturn, 1)) ∧ (decode cX12_matters 32 = .ok (.aload_n 0, 1)) ∧ (decode cX12_matters 33 = .ok (.invokevirtual 138, 3)) ∧ (decode cX12_matters 36 = .ok (.aload_n 0, 1)) ∧ (decode cX12_matters 37 = .ok (.iload_n 1, 1)) := by decide +kernel
theorem dX12_matters_21 : decode cX12_matters 21 = .ok (.ifCond .eq 9, 3) := dX12_matters_21g.1
theorem dX12_matters_24 : decode cX12_matters 24 = .ok (.iload 4, 2) := dX12_matters_21g.2.1
theorem dX12_matters_26 : decode cX12_matters 26 = .ok (.iconst (-1), 1) := dX12_matters_21g.2.2.1
theorem dX12_matters_27 : decode cX12_matters 27 = .ok (.if_icmp .ge 5, 3) := dX12_matters_21g.2.2.2.1
theorem dX12_matters_30 : decode cX12_matters 30 = .ok (.iconst (-1), 1) := dX12_matters_21g.2.2.2.2.1
theorem dX12_matters_31 : decode cX12_matters 31 = .ok (.ireturn, 1) := dX12_matters_21g.2.2.2.2.2.1
theorem dX12_matters_32 : decode cX12_matters 32 = .ok (.aload_n 0, 1) := dX12_matters_21g.2.2.2.2.2.2.1
theorem dX12_matters_33 : decode cX12_matters 33 = .ok (.invokevirtual 138, 3) := dX12_matters_21g.2.2.2.2.2.2.2.1
theorem dX12_matters_36 : decode cX12_matters 36 = .ok (.aload_n 0, 1) := dX12_matters_21g.2.2.2.2.2.2.2.2.1
theorem dX12_matters_37 : decode cX12_matters 37 = .ok (.iload_n 1, 1) := dX12_matters_21g.2.2.2.2.2.2.2.2.2
theorem dX12_matters_38g : (decode cX12_matters 38 = .ok (.iload_n 2, 1)) ∧ (decode cX12_matters 39 = .ok (.iload_n 3, 1)) ∧ (decode cX12_matters 40 = .ok (.invokevirtual 301, 3)) ∧ (decode cX12_matters 43 = .ok (.istore 5, 2)) ∧ (decode cX12_matters 45 = .ok (.iload_n 1, 1)) ∧ (decode cX12_matters 46 = .ok (.istore 6, 2)) ∧ (decode cX12_matters 48 = .ok (.iconst 0, 1)) ∧ (decode cX12_matters 49 = .ok (.istore 7, 2)) ∧ (decode cX12_matters 51 = .ok (.iload_n 2, 1)) ∧ (decode cX12_matters 52 = .ok (.istore 8, 2)) := by decide +kernel
theorem dX12_matters_38 : decode cX12_matters 38 = .ok (.iload_n 2, 1) := dX12_matters_38g.1
theorem dX12_matters_39 : decode cX12_matters 39 = .ok (.iload_n 3, 1) := dX12_matters_38g.2.1
theorem dX12_matters_40 : decode cX12_matters 40 = .ok (.invokevirtual 301, 3) := dX12_matters_38g.2.2.1
theorem dX12_matters_43 : decode cX12_matters 43 = .ok (.istore 5, 2) := dX12_matters_38g.2.2.2.1
theorem dX12_matters_45 : decode cX12_matters 45 = .ok (.iload_n 1, 1) := dX12_matters_38g.2.2.2.2.1
theorem dX12_matters_46 : decode cX12_matters 46 = .ok (.istore 6, 2) := dX12_matters_38g.2.2.2.2.2.1
theorem dX12_matters_48 : decode cX12_matters 48 = .ok (.iconst 0, 1) := dX12_matters_38g.2.2.2.2.2.2.1
theorem dX12_matters_49 : decode cX12_matters 49 = .ok (.istore 7, 2) := dX12_matters_38g.2.2.2.2.2.2.2.1
theorem dX12_matters_51 : decode cX12_matters 51 = .ok (.iload_n 2, 1) := dX12_matters_38g.2.2.2.2.2.2.2.2.1
theorem dX12_matters_52 : decode cX12_matters 52 = .ok (.istore 8, 2) := dX12_matters_38g.2.2.2.2.2.2.2.2.2
theorem dX12_matters_54g : (decode cX12_matters 54 = .ok (.iload 8, 2)) ∧ (decode cX12_matters 56 = .ok (.iload_n 3, 1)) ∧ (decode cX12_matters 57 = .ok (.if_icmp .ge 101, 3)) ∧ (decode cX12_matters 60 = .ok (.iload 6, 2)) ∧ (decode cX12_matters 62 = .ok (.bipush 24, 2)) ∧ (decode cX12_matters 64 = .ok (.if_icmp .ne 8, 3)) ∧ (decode cX12_matters 67 = .ok (.bipush 24, 2)) ∧ (decode cX12_matters 69 = .ok (.goto 37, 3)) ∧ (decode cX12_matters 72 = .ok (.aload_n 0, 1)) ∧ (decode cX12_matters 73 = .ok (.iload 6, 2)) := by decide +kernel
theorem dX12_matters_54 : decode cX12_matters 54 = .ok (.iload 8, 2) := dX12_matters_54g.1
theorem dX12_matters_56 : decode cX12_matters 56 = .ok (.iload_n 3, 1) := dX12_matters_54g.2.1
theorem dX12_matters_57 : decode cX12_matters 57 = .ok (.if_icmp .ge 101, 3) := dX12_matters_54g.2.2.1
theorem dX12_matters_60 : decode cX12_matters 60 = .ok (.iload 6, 2) := dX12_matters_54g.2.2.2.1
theorem dX12_matters_62 : decode cX12_matters 62 = .ok (.bipush 24, 2) := dX12_matters_54g.2.2.2.2.1
theorem dX12_matters_64 : decode cX12_matters 64 = .ok (.if_icmp .ne 8, 3) := dX12_matters_54g.2.2.2.2.2.1
theorem dX12_matters_67 : decode cX12_matters 67 = .ok (.bipush 24, 2) := dX12_matters_54g.2.2.2.2.2.2.1
theorem dX12_matters_69 : decode cX12_matters 69 = .ok (.goto 37, 3) := dX12_matters_54g.2.2.2.2.2.2.2.1
theorem dX12_matters_72 : decode cX12_matters 72 = .ok (.aload_n 0, 1) := dX12_matters_54g.2.2.2.2.2.2.2.2.1
theorem dX12_matters_73 : decode cX12_matters 73 = .ok (.iload 6, 2) := dX12_matters_54g.2.2.2.2.2.2.2.2.2
theorem dX12_matters_75g : (decode cX12_matters 75 = .ok (.iload 8, 2)) ∧ (decode cX12_matters 77 = .ok (.aload_n 0, 1)) ∧ (decode cX12_matters 78 = .ok (.iload 6, 2)) ∧ (decode cX12_matters 80 = .ok (.iload 8, 2)) ∧ (decode cX12_matters 82 = .ok (.aload_n 0, 1)) ∧ (decode cX12_matters 83 = .ok (.getfield 20, 3)) ∧ (decode cX12_matters 86 = .ok (.bipush 10, 2)) ∧ (decode cX12_matters 88 = .ok (.iload 8, 2)) ∧ (decode cX12_matters 90 = .ok (.iadd, 1)) ∧ (decode cX12_matters 91 = .ok (.iaload, 1)) := by decide +kernel
theorem dX12_matters_75 : decode cX12_matters 75 = .ok (.iload 8, 2) := dX12_matters_75g.1
theorem dX12_matters_77 : decode cX12_matters 77 = .ok (.aload_n 0, 1) := dX12_matters_75g.2.1
theorem dX12_matters_78 : decode cX12_matters 78 = .ok (.iload 6, 2) := dX12_matters_75g.2.2.1
theorem dX12_matters_80 : decode cX12_matters 80 = .ok (.iload 8, 2) := dX12_matters_75g.2.2.2.1
theorem dX12_matters_82 : decode cX12_matters 82 = .ok (.aload_n 0, 1) := dX12_matters_75g.2.2.2.2.1
theorem dX12_matters_83 : decode cX12_matters 83 = .ok (.getfield 20, 3) := dX12_matters_75g.2.2.2.2.2.1
theorem dX12_matters_86 : decode cX12_matters 86 = .ok (.bipush 10, 2) := dX12_matters_75g.2.2.2.2.2.2.1
theorem dX12_matters_88 : decode cX12_matters 88 = .ok (.iload 8, 2) := dX12_matters_75g.2.2.2.2.2.2.2.1
theorem dX12_matters_90 : decode cX12_matters 90 = .ok (.iadd, 1) := dX12_matters_75g.2.2.2.2.2.2.2.2.1
theorem dX12_matters_91 : decode cX12_matters 91 = .ok (.iaload, 1) := dX12_matters_75g.2.2.2.2.2.2.2.2.2
theorem dX12_matters_92g : (decode cX12_matters 92 = .ok (.ifCond .ne 7, 3)) ∧ (decode cX12_matters 95 = .ok (.iconst 1, 1)) ∧ (decode cX12_matters 96 = .ok (.goto 4, 3)) ∧ (decode cX12_matters 99 = .ok (.iconst 0, 1)) ∧ (decode cX12_matters 100 = .ok (.invokevirtual 282, 3)) ∧ (decode cX12_matters 103 = .ok (.invokevirtual 288, 3)) ∧ (decode cX12_matters 106 = .ok (.istore 9, 2)) ∧ (decode cX12_matters 108 = .ok (.aload_n 0, 1)) ∧ (decode cX12_matters 109 = .ok (.iload 9, 2)) ∧ (decode cX12_matters 111 = .ok (.iload 8, 2)) := by decide +kernel
theorem dX12_matters_92 : decode cX12_matters 92 = .ok (.ifCond .ne 7, 3) := dX12_matters_92g.1
theorem dX12_matters_95 : decode cX12_matters 95 = .ok (.iconst 1, 1) := dX12_matters_92g.2.1
theorem dX12_matters_96 : decode cX12_matters 96 = .ok (.goto 4, 3) := dX12_matters_92g.2.2.1
theorem dX12_matters_99 : decode cX12_matters 99 = .ok (.iconst 0, 1) := dX12_matters_92g.2.2.2.1
theorem dX12_matters_100 : decode cX12_matters 100 = .ok (.invokevirtual 282, 3) := dX12_matters_92g.2.2.2.2.1
theorem dX12_matters_103 : decode cX12_matters 103 = .ok (.invokevirtual 288, 3) := dX12_matters_92g.2.2.2.2.2.1
theorem dX12_matters_106 : decode cX12_matters 106 = .ok (.istore 9, 2) := dX12_matters_92g.2.2.2.2.2.2.1
theorem dX12_matters_108 : decode cX12_matters 108 = .ok (.aload_n 0, 1) := dX12_matters_92g.2.2.2.2.2.2.2.1
theorem dX12_matters_109 : decode cX12_matters 109 = .ok (.iload 9, 2) := dX12_matters_92g.2.2.2.2.2.2.2.2.1
theorem dX12_matters_111 : decode cX12_matters 111 = .ok (.iload 8, 2) := dX12_matters_92g.2.2.2.2.2.2.2.2.2
theorem dX12_matters_113g : (decode cX12_matters 113 = .ok (.iconst 1, 1)) ∧ (decode cX12_matters 114 = .ok (.iadd, 1)) ∧ (decode cX12_matters 115 = .ok (.iload_n 3, 1)) ∧ (decode cX12_matters 116 = .ok (.invokevirtual 301, 3)) ∧ (decode cX12_matters 119 = .ok (.iload 5, 2)) ∧ (decode cX12_matters 121 = .ok (.if_icmp .eq 16, 3)) ∧ (decode cX12_matters 124 = .ok (.iload 7, 2)) ∧ (decode cX12_matters 126 = .ok (.iload 4, 2)) ∧ (decode cX12_matters 128 = .ok (.if_icmp .ne 6, 3)) ∧ (decode cX12_matters 131 = .ok (.iload 8, 2)) := by decide +kernel
theorem dX12_matters_113 : decode cX12_matters 113 = .ok (.iconst 1, 1) := dX12_matters_113g.1
theorem dX12_matters_114 : decode cX12_matters 114 = .ok (.iadd, 1) := dX12_matters_113g.2.1
theorem dX12_matters_115 : decode cX12_matters 115 = .ok (.iload_n 3, 1) := dX12_matters_113g.2.2.1
theorem dX12_matters_116 : decode cX12_matters 116 = .ok (.invokevirtual 301, 3) := dX12_matters_113g.2.2.2.1
theorem dX12_matters_119 : decode cX12_matters 119 = .ok (.iload 5, 2) := dX12_matters_113g.2.2.2.2.1
theorem dX12_matters_121 : decode cX12_matters 121 = .ok (.if_icmp .eq 16, 3) := dX12_matters_113g.2.2.2.2.2.1
theorem dX12_matters_124 : decode cX12_matters 124 = .ok (.iload 7, 2) := dX12_matters_113g.2.2.2.2.2.2.1
theorem dX12_matters_126 : decode cX12_matters 126 = .ok (.iload 4, 2) := dX12_matters_113g.2.2.2.2.2.2.2.1
theorem dX12_matters_128 : decode cX12_matters 128 = .ok (.if_icmp .ne 6, 3) := dX12_matters_113g.2.2.2.2.2.2.2.2.1
theorem dX12_matters_131 : decode cX12_matters 131 = .ok (.iload 8, 2) := dX12_matters_113g.2.2.2.2.2.2.2.2.2
theorem dX12_matters_133g : (decode cX12_matters 133 = .ok (.ireturn, 1)) ∧ (decode cX12_matters 134 = .ok (.iinc 7 1, 3)) ∧ (decode cX12_matters 137 = .ok (.aload_n 0, 1)) ∧ (decode cX12_matters 138 = .ok (.getfield 67, 3)) ∧ (decode cX12_matters 141 = .ok (.bipush 25, 2)) ∧ (decode cX12_matters 143 = .ok (.iload 8, 2)) ∧ (decode cX12_matters 145 = .ok (.imul, 1)) ∧ (decode cX12_matters 146 = .ok (.iload 6, 2)) ∧ (decode cX12_matters 148 = .ok (.iadd, 1)) ∧ (decode cX12_matters 149 = .ok (.iaload, 1)) := by decide +kernel
theorem dX12_matters_133 : decode cX12_matters 133 = .ok (.ireturn, 1) := dX12_matters_133g.1
theorem dX12_matters_134 : decode cX12_matters 134 = .ok (.iinc 7 1, 3) := dX12_matters_133g.2.1
theorem dX12_matters_137 : decode cX12_matters 137 = .ok (.aload_n 0, 1) := dX12_matters_133g.2.2.1
theorem dX12_matters_138 : decode cX12_matters 138 = .ok (.getfield 67, 3) := dX12_matters_133g.2.2.2.1
theorem dX12_matters_141 : decode cX12_matters 141 = .ok (.bipush 25, 2) := dX12_matters_133g.2.2.2.2.1
theorem dX12_matters_143 : decode cX12_matters 143 = .ok (.iload 8, 2) := dX12_matters_133g.2.2.2.2.2.1
theorem dX12_matters_145 : decode cX12_matters 145 = .ok (.imul, 1) := dX12_matters_133g.2.2.2.2.2.2.1
theorem dX12_matters_146 : decode cX12_matters 146 = .ok (.iload 6, 2) := dX12_matters_133g.2.2.2.2.2.2.2.1
theorem dX12_matters_148 : decode cX12_matters 148 = .ok (.iadd, 1) := dX12_matters_133g.2.2.2.2.2.2.2.2.1
theorem dX12_matters_149 : decode cX12_matters 149 = .ok (.iaload, 1) := dX12_matters_133g.2.2.2.2.2.2.2.2.2
theorem dX12_matters_150g : (decode cX12_matters 150 = .ok (.istore 6, 2)) ∧ (decode cX12_matters 152 = .ok (.iinc 8 1, 3)) ∧ (decode cX12_matters 155 = .ok (.goto (-101), 3)) ∧ (decode cX12_matters 158 = .ok (.iload 4, 2)) ∧ (decode cX12_matters 160 = .ok (.iconst (-1), 1)) ∧ (decode cX12_matters 161 = .ok (.if_icmp .ne 8, 3)) ∧ (decode cX12_matters 164 = .ok (.iload 7, 2)) ∧ (decode cX12_matters 166 = .ok (.goto 4, 3)) ∧ (decode cX12_matters 169 = .ok (.iconst (-1), 1)) ∧ (decode cX12_matters 170 = .ok (.ireturn, 1)) := by decide +kernel
theorem dX12_matters_150 : decode cX12_matters 150 = .ok (.istore 6, 2) := dX12_matters_150g.1
theorem dX12_matters_152 : decode cX12_matters 152 = .ok (.iinc 8 1, 3) := dX12_matters_150g.2.1
theorem dX12_matters_155 : decode cX12_matters 155 = .ok (.goto (-101), 3) := dX12_matters_150g.2.2.1
theorem dX12_matters_158 : decode cX12_matters 158 = .ok (.iload 4, 2) := dX12_matters_150g.2.2.2.1
theorem dX12_matters_160 : decode cX12_matters 160 = .ok (.iconst (-1), 1) := dX12_matters_150g.2.2.2.2.1
theorem dX12_matters_161 : decode cX12_matters 161 = .ok (.if_icmp .ne 8, 3) := dX12_matters_150g.2.2.2.2.2.1
theorem dX12_matters_164 : decode cX12_matters 164 = .ok (.iload 7, 2) := dX12_matters_150g.2.2.2.2.2.2.1
theorem dX12_matters_166 : decode cX12_matters 166 = .ok (.goto 4, 3) := dX12_matters_150g.2.2.2.2.2.2.2.1
theorem dX12_matters_169 : decode cX12_matters 169 = .ok (.iconst (-1), 1) := dX12_matters_150g.2.2.2.2.2.2.2.2.1
theorem dX12_matters_170 : decode cX12_matters 170 = .ok (.ireturn, 1) := dX12_matters_150g.2.2.2.2.2.2.2.2.2
set_option maxHeartbeats 4000000 in
set_option maxRecDepth 100000 in
theorem c_X12_matters (l : Launch) (E : Nat → Nat) (D : va_G) (G : th_G) (h0 : Nat) (hG0 : G h0 = some (10, 0)) (x1 : Int32) (x2 : Int32) (x3 : Int32) (x4 : Int32) : Met l yX12_matters (tb (.code yX12_matters cX12_matters 10 (some .int))) (rm 69) (va_Pc [.ref h0, .int x1, .int x2, .int x3, .int x4] (PX E D G (fun H => True))) (QXi E D G (fun r H => True)) 0 0 (th_A G) := by
  refine Met.ofW (cc := cX12_matters) (maxL := 10) (ret := (some .int)) (by decide) rfl ?_
  intro p e s m args below meth c s₁ B hml hv
  obtain ⟨hav, ⟨hI, hN, hK⟩, hX⟩ := hv
  have hx := B.exec
  have hb := B.bytes
  have hr := B.returns
  have hts := atoms_spec (ws := tb (.code yX12_matters cX12_matters 10 (some .int))) B.pre
  have hown : s.vm.findClass RX12 = some m.cls := findClass_of_methodNamed B.named
  have hlocks := B.notSynchronized
  have hS : va_S (th_A G) s.heap s.heap [] := va_S.rf
  have hl := lv_entry ([.ref h0, .int x1, .int x2, .int x3, .int x4]) (n := 10) (Nat.le_of_ble_eq_true rfl)
  rw [show entryFrame m args 10 = entryFrame m ([.ref h0, .int x1, .int x2, .int x3, .int x4] : List Value).toArray 10 from by rw [hav], lg_entry_eq]
  generalize (lg_sl ([.ref h0, .int x1, .int x2, .int x3, .int x4]) ++ List.replicate (10 - (lg_sl ([.ref h0, .int x1, .int x2, .int x3, .int x4])).length) Slot.unset).toArray = ls at hl ⊢
  have hl : lv_has ls 10 [(0, .ref h0), (1, .int x1), (2, .int x2), (3, .int x3), (4, .int x4)] := hl
  generalize hR : (headSpec (tb (.code yX12_matters cX12_matters 10 (some .int))) (rm 69)).room = R
  have hR := hR.symm
  generalize hQ : MQ below (QXi E D G (fun r H => True)) args s 0 0 (th_A G) = QF
  have hQ := hQ.symm
  have J_54 : ∀ (nn : Nat) (H : Heap) (locs : List Loc) (ls : Array Slot) (v8399 : Int32) (v8400 : Int32) (v8401 : Int32) (v8402 : Int32) , (Int.toNat (96 - v8399.toInt) = nn) → lv_has ls 10 [(8, .int v8399), (7, .int v8400), (6, .int v8401), (5, .int v8402), (0, .ref h0), (1, .int x1), (2, .int x2), (3, .int x3), (4, .int x4)] → ((0 : Int) ≤ v8399.toInt ∧ v8399.toInt ≤ 96) → ((0 : Int) ≤ v8401.toInt ∧ v8401.toInt ≤ 24) → ((0 : Int) ≤ v8402.toInt ∧ v8402.toInt ≤ 24) → ((0 : Int) ≤ x1.toInt ∧ x1.toInt ≤ 23) → ((0 : Int) ≤ x2.toInt ∧ x2.toInt ≤ 96) → ((0 : Int) ≤ x3.toInt ∧ x3.toInt ≤ 96) → ((-1 : Int) ≤ x4.toInt) → th_I (okM E) D G [] H → va_S (th_A G) s.heap H locs → W p l e R s m args below meth c H locs 0 0 QF (F0 m 54 ls []) := by
    intro nn
    induction nn using Nat.strongRecOn with
    | ind nn ih_54 =>
      intro H locs ls v8399 v8400 v8401 v8402  hm hl k8403 k8404 k8405 k8406 k8407 k8408 k8409 hI hS
      have J_137 : ∀ (H : Heap) (locs : List Loc) (ls : Array Slot) (v8410 : Int32) (v8412 : Int32) , lv_has ls 10 [(9, .int v8410), (8, .int v8399), (7, .int v8412), (6, .int v8401), (5, .int v8402), (0, .ref h0), (1, .int x1), (2, .int x2), (3, .int x3), (4, .int x4)] → ((0 : Int) ≤ v8410.toInt ∧ v8410.toInt ≤ 24) → ((0 : Int) ≤ v8399.toInt ∧ v8399.toInt ≤ 95) → ((1 : Int) ≤ x3.toInt ∧ x3.toInt ≤ 96) → th_I (okM E) D G [] H → va_S (th_A G) s.heap H locs → W p l e R s m args below meth c H locs 0 0 QF (F0 m 137 ls []) := by
        intro H locs ls v8410 v8412  hl k8415 k8416 k8417 hI hS
        refine lv_aload_n hx hb dX12_matters_137 rfl (lv_at hl 5 rfl) ?_
        refine gmA hx hb hts inT12 hown hK hI List.not_mem_nil hG0 27 (by decide) (hts _ (tb_c wd_1260)) rfl rfl dX12_matters_138 (fun a8418 hq8419 hf8420 => ?_)
        refine lv_bipush (v := 25) hx hb dX12_matters_141 (by decide) ?_
        refine lv_iload hx hb dX12_matters_143 (lv_at hl 1 rfl) ?_
        refine lv_imul hx hb dX12_matters_145 ?_
        refine lv_topi (fun v8421 e8422 => ?_)
        have tv8421 : v8421.toInt = (25) * v8399.toInt := iv_mul (by decide) rfl e8422 (by omega) (by omega)
        refine lv_iload hx hb dX12_matters_146 (lv_at hl 3 rfl) ?_
        refine lv_iadd hx hb dX12_matters_148 ?_
        refine lv_topi (fun v8423 e8424 => ?_)
        have tv8423 : v8423.toInt = v8421.toInt + v8401.toInt := iv_add rfl rfl e8424 (by omega) (by omega)
        obtain ⟨F8425, hA8426, hP8427⟩ := om_3 hI hq8419 List.not_mem_nil
        refine th_iald hx hb hK hA8426 0 rfl (iv_in (X := v8423.toInt) rfl (by omega) (by omega)) dX12_matters_149 (fun v8428 e8429 => ?_)
        have k8430 := rgs_get hP8427 e8429 (X := v8423.toInt) rfl (by omega) (by omega)
        refine lv_istore (lv' := [(6, .int v8428), (9, .int v8410), (8, .int v8399), (7, .int v8412), (5, .int v8402), (0, .ref h0), (1, .int x1), (2, .int x2), (3, .int x3), (4, .int x4)]) hx hb dX12_matters_150 hl (by decide) rfl (fun ls hl => ?_)
        obtain ⟨v8431, e8432⟩ : ∃ y : Int32, y = v8399 + (1) := ⟨_, rfl⟩
        have tv8431 : v8431.toInt = v8399.toInt + (1) := iv_add rfl (by decide) e8432 (by omega) (by omega)
        refine lv_iinc (v := v8431) (lv' := [(8, .int v8431), (6, .int v8428), (9, .int v8410), (7, .int v8412), (5, .int v8402), (0, .ref h0), (1, .int x1), (2, .int x2), (3, .int x3), (4, .int x4)]) hx hb dX12_matters_152 hl (k := 2) rfl (by rw [e8432]; rfl) (by decide) rfl (fun ls hl => ?_)
        refine lv_goto (tgt := 54) hx hb dX12_matters_155 (by decide) ?_
        exact ih_54 _ (by omega) H locs ls v8431 v8412 v8428 v8402  rfl (lv_sub hl [0, 3, 1, 4, 5, 6, 7, 8, 9] rfl) ⟨by omega, by omega⟩ ⟨by omega, by omega⟩ ⟨by omega, by omega⟩ ⟨by omega, by omega⟩ ⟨by omega, by omega⟩ ⟨by omega, by omega⟩ (by omega) hI hS
      have J_106 : ∀ (H : Heap) (locs : List Loc) (ls : Array Slot) (v8437 : Int32) , lv_has ls 10 [(8, .int v8399), (7, .int v8400), (6, .int v8401), (5, .int v8402), (0, .ref h0), (1, .int x1), (2, .int x2), (3, .int x3), (4, .int x4)] → ((0 : Int) ≤ v8399.toInt ∧ v8399.toInt ≤ 95) → ((1 : Int) ≤ x3.toInt ∧ x3.toInt ≤ 96) → ((0 : Int) ≤ v8437.toInt ∧ v8437.toInt ≤ 24) → th_I (okM E) D G [] H → va_S (th_A G) s.heap H locs → W p l e R s m args below meth c H locs 0 0 QF (F0 m 106 ls [.int v8437]) := by
        intro H locs ls v8437  hl k8438 k8439 k8440 hI hS
        refine lv_istore (lv' := [(9, .int v8437), (8, .int v8399), (7, .int v8400), (6, .int v8401), (5, .int v8402), (0, .ref h0), (1, .int x1), (2, .int x2), (3, .int x3), (4, .int x4)]) hx hb dX12_matters_106 hl (by decide) rfl (fun ls hl => ?_)
        refine lv_aload_n hx hb dX12_matters_108 rfl (lv_at hl 5 rfl) ?_
        refine lv_iload hx hb dX12_matters_109 (lv_at hl 0 rfl) ?_
        refine lv_iload hx hb dX12_matters_111 (lv_at hl 1 rfl) ?_
        refine lv_iconst (v := 1) hx hb dX12_matters_113 (by decide) ?_
        refine lv_iadd hx hb dX12_matters_114 ?_
        refine lv_topi (fun v8441 e8442 => ?_)
        have tv8441 : v8441.toInt = v8399.toInt + (1) := iv_add rfl (by decide) e8442 (by omega) (by omega)
        refine lv_iload_n hx hb dX12_matters_115 rfl (lv_at hl 8 rfl) ?_
        refine mr_i (As := [.int v8437, .int v8441, .int x3]) (rest := []) (n := 3) (d := 0) ⟨hx, hb, hml, hown, hts⟩ (c_X12_floats l E D G H h0 hG0 v8437 v8441 x3 ⟨by omega, by omega⟩ (by omega) (by omega)) wd_1658 wd_1660 wp_77 wd_13 wd_1661 (by decide +kernel) ⟨by rw [hR]; exact Nat.le_of_ble_eq_true rfl, by rw [hR]; exact Nat.le_of_ble_eq_true rfl⟩ hI hN hK hS hG0 rfl hl.1 rfl (Nat.le_of_ble_eq_true rfl) dX12_matters_116 ⟨Nat.zero_le _, Nat.zero_le _⟩ (fun r8443 locs hp hS => ?_)
        have hp8444 := hp
        refine lv_iload hx hb dX12_matters_119 (lv_at hl 4 rfl) ?_
        refine lv_icmp_eq (tgt := 137) hx hb dX12_matters_121 (by decide) (fun c8445 => ?_) (fun c8445 => ?_)
        · skip
          have k8446 := iv_eq (X := r8443.toInt) (Y := v8402.toInt) rfl rfl c8445
          exact J_137 H locs ls v8437 v8400  (lv_sub hl [0, 1, 2, 3, 4, 5, 6, 7, 8, 9] rfl) ⟨by omega, by omega⟩ ⟨by omega, by omega⟩ ⟨by omega, by omega⟩ hI hS
        · skip
          have k8447 := iv_ne (X := r8443.toInt) (Y := v8402.toInt) rfl rfl c8445
          refine lv_iload hx hb dX12_matters_124 (lv_at hl 2 rfl) ?_
          refine lv_iload hx hb dX12_matters_126 (lv_at hl 9 rfl) ?_
          have k8448 := iv_lo v8400
          have k8449 := iv_hi v8400
          have k8450 := iv_lo x4
          have k8451 := iv_hi x4
          refine lv_icmp_ne (tgt := 134) hx hb dX12_matters_128 (by decide) (fun c8452 => ?_) (fun c8452 => ?_)
          · skip
            have k8453 := iv_ne (X := v8400.toInt) (Y := x4.toInt) rfl rfl c8452
            obtain ⟨v8454, e8455⟩ : ∃ y : Int32, y = v8400 + (1) := ⟨_, rfl⟩
            refine lv_iinc (v := v8454) (lv' := [(7, .int v8454), (9, .int v8437), (8, .int v8399), (6, .int v8401), (5, .int v8402), (0, .ref h0), (1, .int x1), (2, .int x2), (3, .int x3), (4, .int x4)]) hx hb dX12_matters_134 hl (k := 2) rfl (by rw [e8455]; rfl) (by decide) rfl (fun ls hl => ?_)
            exact J_137 H locs ls v8437 v8454  (lv_sub hl [1, 2, 0, 3, 4, 5, 6, 7, 8, 9] rfl) ⟨by omega, by omega⟩ ⟨by omega, by omega⟩ ⟨by omega, by omega⟩ hI hS
          · skip
            have k8456 := iv_eq (X := v8400.toInt) (Y := x4.toInt) rfl rfl c8452
            refine lv_iload hx hb dX12_matters_131 (lv_at hl 1 rfl) ?_
            have hpost : True := trivial
            rw [hQ]
            exact W.iret (v := v8399) hx hb hr (fun t ht hW => ⟨⟨v8399, v8399, rfl, rfl, ⟨by rw [ht]; exact hI, hN.warm hW, va_K.moved hW.alike hK⟩, by first | (rw [ht]; exact hpost) | exact hpost⟩, hS.F ht⟩) hS.2.2 dX12_matters_133
      have J_100 : ∀ (H : Heap) (locs : List Loc) (ls : Array Slot) (v8461 : Int32) (v8462 : Int32) (v8463 : Int32) (v8464 : Int32) (v8465 : Int32) , lv_has ls 10 [(8, .int v8399), (7, .int v8400), (6, .int v8401), (5, .int v8402), (0, .ref h0), (1, .int x1), (2, .int x2), (3, .int x3), (4, .int x4)] → ((0 : Int) ≤ v8399.toInt ∧ v8399.toInt ≤ 95) → ((0 : Int) ≤ v8401.toInt ∧ v8401.toInt ≤ 23) → ((1 : Int) ≤ x3.toInt ∧ x3.toInt ≤ 96) → ((0 : Int) ≤ v8461.toInt ∧ v8461.toInt ≤ 1) → ((0 : Int) ≤ v8462.toInt ∧ v8462.toInt ≤ 95) → ((0 : Int) ≤ v8463.toInt ∧ v8463.toInt ≤ 23) → ((0 : Int) ≤ v8464.toInt ∧ v8464.toInt ≤ 95) → ((0 : Int) ≤ v8465.toInt ∧ v8465.toInt ≤ 23) → th_I (okM E) D G [] H → va_S (th_A G) s.heap H locs → W p l e R s m args below meth c H locs 0 0 QF (F0 m 100 ls [.int v8461, .int v8462, .int v8463, .ref h0, .int v8464, .int v8465, .ref h0]) := by
        intro H locs ls v8461 v8462 v8463 v8464 v8465  hl k8466 k8467 k8468 k8469 k8470 k8471 k8472 k8473 hI hS
        refine mx_i (As := [.int v8463, .int v8462, .int v8461]) (rest := [.int v8464, .int v8465, .ref h0]) (n := 3) (d := 67) ⟨hx, hb, hml, hown, hts⟩ (c_X12_flowOf l E D G h0 hG0 v8463 v8462 v8461 ⟨by omega, by omega⟩) wd_1459 wd_1461 wp_44 wd_13 wd_1462 (by decide +kernel) ⟨by rw [hR]; exact Nat.le_of_ble_eq_true rfl, by rw [hR]; exact Nat.le_of_ble_eq_true rfl⟩ hI hN hK hS hG0 (trivial) rfl hl.1 rfl (Nat.le_of_ble_eq_true rfl) dX12_matters_100 ⟨Nat.zero_le _, Nat.zero_le _⟩ (fun r8474 H locs hI hp hS => ?_)
        refine mr_i (As := [.int v8465, .int v8464, .int r8474]) (rest := []) (n := 3) (d := 2) ⟨hx, hb, hml, hown, hts⟩ (c_X12_floatsTo l E D G H h0 hG0 v8465 v8464 r8474 ⟨by omega, by omega⟩) wd_1531 wd_1533 wp_60 wd_13 wd_1534 (by decide +kernel) ⟨by rw [hR]; exact Nat.le_of_ble_eq_true rfl, by rw [hR]; exact Nat.le_of_ble_eq_true rfl⟩ hI hN hK hS hG0 rfl hl.1 rfl (Nat.le_of_ble_eq_true rfl) dX12_matters_103 ⟨Nat.zero_le _, Nat.zero_le _⟩ (fun r8475 locs hp hS => ?_)
        have hp8476 := hp
        exact J_106 H locs ls r8475  (lv_sub hl [0, 1, 2, 3, 4, 5, 6, 7, 8] rfl) ⟨by omega, by omega⟩ ⟨by omega, by omega⟩ ⟨by omega, by omega⟩ hI hS
      refine lv_iload hx hb dX12_matters_54 (lv_at hl 0 rfl) ?_
      refine lv_iload_n hx hb dX12_matters_56 rfl (lv_at hl 7 rfl) ?_
      refine lv_icmp_ge (tgt := 158) hx hb dX12_matters_57 (by decide) (fun c8477 => ?_) (fun c8477 => ?_)
      · skip
        have k8478 := iv_le (X := x3.toInt) (Y := v8399.toInt) rfl rfl c8477
        refine lv_iload hx hb dX12_matters_158 (lv_at hl 8 rfl) ?_
        refine lv_iconst (v := (-1)) hx hb dX12_matters_160 (by decide) ?_
        have k8479 := iv_lo x4
        have k8480 := iv_hi x4
        refine lv_icmp_ne (tgt := 169) hx hb dX12_matters_161 (by decide) (fun c8481 => ?_) (fun c8481 => ?_)
        · skip
          have k8482 := iv_ne (X := x4.toInt) (Y := (-1)) rfl (by decide) c8481
          refine lv_iconst (v := (-1)) hx hb dX12_matters_169 (by decide) ?_
          have hpost : True := trivial
          rw [hQ]
          exact W.iret (v := (-1)) hx hb hr (fun t ht hW => ⟨⟨(-1), (-1), rfl, rfl, ⟨by rw [ht]; exact hI, hN.warm hW, va_K.moved hW.alike hK⟩, by first | (rw [ht]; exact hpost) | exact hpost⟩, hS.F ht⟩) hS.2.2 dX12_matters_170
        · skip
          have k8483 := iv_eq (X := x4.toInt) (Y := (-1)) rfl (by decide) c8481
          refine lv_iload hx hb dX12_matters_164 (lv_at hl 1 rfl) ?_
          refine lv_goto (tgt := 170) hx hb dX12_matters_166 (by decide) ?_
          have hpost : True := trivial
          rw [hQ]
          exact W.iret (v := v8400) hx hb hr (fun t ht hW => ⟨⟨v8400, v8400, rfl, rfl, ⟨by rw [ht]; exact hI, hN.warm hW, va_K.moved hW.alike hK⟩, by first | (rw [ht]; exact hpost) | exact hpost⟩, hS.F ht⟩) hS.2.2 dX12_matters_170
      · skip
        have k8484 := iv_nle (X := x3.toInt) (Y := v8399.toInt) rfl rfl c8477
        refine lv_iload hx hb dX12_matters_60 (lv_at hl 2 rfl) ?_
        refine lv_bipush (v := 24) hx hb dX12_matters_62 (by decide) ?_
        refine lv_icmp_ne (tgt := 72) hx hb dX12_matters_64 (by decide) (fun c8485 => ?_) (fun c8485 => ?_)
        · skip
          have k8486 := iv_ne (X := v8401.toInt) (Y := (24)) rfl (by decide) c8485
          refine lv_aload_n hx hb dX12_matters_72 rfl (lv_at hl 4 rfl) ?_
          refine lv_iload hx hb dX12_matters_73 (lv_at hl 2 rfl) ?_
          refine lv_iload hx hb dX12_matters_75 (lv_at hl 0 rfl) ?_
          refine lv_aload_n hx hb dX12_matters_77 rfl (lv_at hl 4 rfl) ?_
          refine lv_iload hx hb dX12_matters_78 (lv_at hl 2 rfl) ?_
          refine lv_iload hx hb dX12_matters_80 (lv_at hl 0 rfl) ?_
          refine lv_aload_n hx hb dX12_matters_82 rfl (lv_at hl 4 rfl) ?_
          refine gmA hx hb hts inT12 hown hK hI List.not_mem_nil hG0 3 (by decide) (hts _ (tb_c wd_1236)) rfl rfl dX12_matters_83 (fun a8487 hq8488 hf8489 => ?_)
          refine lv_bipush (v := 10) hx hb dX12_matters_86 (by decide) ?_
          refine lv_iload hx hb dX12_matters_88 (lv_at hl 0 rfl) ?_
          refine lv_iadd hx hb dX12_matters_90 ?_
          refine lv_topi (fun v8490 e8491 => ?_)
          have tv8490 : v8490.toInt = (10) + v8399.toInt := iv_add (by decide) rfl e8491 (by omega) (by omega)
          obtain ⟨F8492, hA8493, hP8494⟩ := om_1 hI hq8488 List.not_mem_nil
          refine th_iald hx hb hK hA8493 0 rfl (iv_in (X := v8490.toInt) rfl (by omega) (by omega)) dX12_matters_91 (fun v8495 e8496 => ?_)
          have k8497 := iv_lo v8495
          have k8498 := iv_hi v8495
          refine lv_if_ne (tgt := 99) hx hb dX12_matters_92 (by decide) (fun c8499 => ?_) (fun c8499 => ?_)
          · skip
            have k8500 := iv_ne (X := v8495.toInt) (Y := (0)) rfl (by decide) c8499
            refine lv_iconst (v := 0) hx hb dX12_matters_99 (by decide) ?_
            exact J_100 H locs ls 0 v8399 v8401 v8399 v8401  (lv_sub hl [0, 1, 2, 3, 4, 5, 6, 7, 8] rfl) ⟨by omega, by omega⟩ ⟨by omega, by omega⟩ ⟨by omega, by omega⟩ ⟨by decide, by decide⟩ ⟨by omega, by omega⟩ ⟨by omega, by omega⟩ ⟨by omega, by omega⟩ ⟨by omega, by omega⟩ hI hS
          · skip
            have k8501 := iv_eq (X := v8495.toInt) (Y := (0)) rfl (by decide) c8499
            refine lv_iconst (v := 1) hx hb dX12_matters_95 (by decide) ?_
            refine lv_goto (tgt := 100) hx hb dX12_matters_96 (by decide) ?_
            exact J_100 H locs ls 1 v8399 v8401 v8399 v8401  (lv_sub hl [0, 1, 2, 3, 4, 5, 6, 7, 8] rfl) ⟨by omega, by omega⟩ ⟨by omega, by omega⟩ ⟨by omega, by omega⟩ ⟨by decide, by decide⟩ ⟨by omega, by omega⟩ ⟨by omega, by omega⟩ ⟨by omega, by omega⟩ ⟨by omega, by omega⟩ hI hS
        · skip
          have k8502 := iv_eq (X := v8401.toInt) (Y := (24)) rfl (by decide) c8485
          refine lv_bipush (v := 24) hx hb dX12_matters_67 (by decide) ?_
          refine lv_goto (tgt := 106) hx hb dX12_matters_69 (by decide) ?_
          exact J_106 H locs ls 24  (lv_sub hl [0, 1, 2, 3, 4, 5, 6, 7, 8] rfl) ⟨by omega, by omega⟩ ⟨by omega, by omega⟩ ⟨by decide, by decide⟩ hI hS
  have J_30 : ∀ (H : Heap) (locs : List Loc) (ls : Array Slot)  , lv_has ls 10 [(0, .ref h0), (1, .int x1), (2, .int x2), (3, .int x3), (4, .int x4)] → th_I (okM E) D G [] H → va_S (th_A G) s.heap H locs → W p l e R s m args below meth c H locs 0 0 QF (F0 m 30 ls []) := by
    intro H locs ls   hl  hI hS
    refine lv_iconst (v := (-1)) hx hb dX12_matters_30 (by decide) ?_
    have hpost : True := trivial
    rw [hQ]
    exact W.iret (v := (-1)) hx hb hr (fun t ht hW => ⟨⟨(-1), (-1), rfl, rfl, ⟨by rw [ht]; exact hI, hN.warm hW, va_K.moved hW.alike hK⟩, by first | (rw [ht]; exact hpost) | exact hpost⟩, hS.F ht⟩) hS.2.2 dX12_matters_31
  refine lv_iload_n hx hb dX12_matters_0 rfl (lv_at hl 1 rfl) ?_
  refine th_cSs (As := [.int x1]) (rest := []) (n := 1) (d := 1) ⟨hx, hb, hml, hown, hts⟩ (c_X12_isCell l s.heap x1) wd_1414 wd_1415 wd_13 wd_1416 (by decide +kernel) ⟨by rw [hR]; exact Nat.le_of_ble_eq_true rfl, by rw [hR]; exact Nat.le_of_ble_eq_true rfl⟩ hN hS rfl hl.1 rfl (Nat.le_of_ble_eq_true rfl) dX12_matters_1 ⟨Nat.zero_le _, Nat.zero_le _⟩ (fun r8503 locs hp hS => ?_)
  rcases hp with ⟨rfl, hp⟩ | ⟨rfl, hp⟩
  · skip
    try simp only [rg, not_and, Int.not_le] at hp
    have hp8504 := hp
    refine lv_if_eq (tgt := 30) hx hb dX12_matters_4 (by decide) (fun c => absurd c (by decide)) (fun _ => ?_)
    refine lv_iload_n hx hb dX12_matters_7 rfl (lv_at hl 2 rfl) ?_
    refine th_cSs (As := [.int x2]) (rest := []) (n := 1) (d := 1) ⟨hx, hb, hml, hown, hts⟩ (c_X12_isTime l s.heap x2) wd_1655 wd_1656 wd_13 wd_1657 (by decide +kernel) ⟨by rw [hR]; exact Nat.le_of_ble_eq_true rfl, by rw [hR]; exact Nat.le_of_ble_eq_true rfl⟩ hN hS rfl hl.1 rfl (Nat.le_of_ble_eq_true rfl) dX12_matters_8 ⟨Nat.zero_le _, Nat.zero_le _⟩ (fun r8505 locs hp hS => ?_)
    rcases hp with ⟨rfl, hp⟩ | ⟨rfl, hp⟩
    · skip
      try simp only [rg, not_and, Int.not_le] at hp
      have hp8506 := hp
      refine lv_if_eq (tgt := 30) hx hb dX12_matters_11 (by decide) (fun c => absurd c (by decide)) (fun _ => ?_)
      refine lv_iload_n hx hb dX12_matters_14 rfl (lv_at hl 3 rfl) ?_
      refine lv_iload_n hx hb dX12_matters_15 rfl (lv_at hl 2 rfl) ?_
      refine lv_bipush (v := 96) hx hb dX12_matters_16 (by decide) ?_
      refine th_cSs (As := [.int x3, .int x2, .int 96]) (rest := []) (n := 3) (d := 0) ⟨hx, hb, hml, hown, hts⟩ (c_X12_lies l s.heap x3 x2 96) wd_1395 wd_1396 wd_13 wd_1397 (by decide +kernel) ⟨by rw [hR]; exact Nat.le_of_ble_eq_true rfl, by rw [hR]; exact Nat.le_of_ble_eq_true rfl⟩ hN hS rfl hl.1 rfl (Nat.le_of_ble_eq_true rfl) dX12_matters_18 ⟨Nat.zero_le _, Nat.zero_le _⟩ (fun r8507 locs hp hS => ?_)
      rcases hp with ⟨rfl, hp⟩ | ⟨rfl, hp⟩
      · skip
        try simp only [rg, not_and, Int.not_le] at hp
        have hp8508 := hp
        try rw [show (96 : Int32).toInt = 96 from by decide] at hp8508
        refine lv_if_eq (tgt := 30) hx hb dX12_matters_21 (by decide) (fun c => absurd c (by decide)) (fun _ => ?_)
        refine lv_iload hx hb dX12_matters_24 (lv_at hl 4 rfl) ?_
        refine lv_iconst (v := (-1)) hx hb dX12_matters_26 (by decide) ?_
        have k8509 := iv_lo x4
        have k8510 := iv_hi x4
        refine lv_icmp_ge (tgt := 32) hx hb dX12_matters_27 (by decide) (fun c8511 => ?_) (fun c8511 => ?_)
        · skip
          have k8512 := iv_le (X := (-1)) (Y := x4.toInt) (by decide) rfl c8511
          refine lv_aload_n hx hb dX12_matters_32 rfl (lv_at hl 0 rfl) ?_
          refine mx_v (As := []) (rest := []) (n := 0) (d := 68) ⟨hx, hb, hml, hown, hts⟩ (c_X12_looks l E D G h0 hG0 ) wd_1455 wd_1457 wp_43 wd_13 wd_1458 (by decide +kernel) ⟨by rw [hR]; exact Nat.le_of_ble_eq_true rfl, by rw [hR]; exact Nat.le_of_ble_eq_true rfl⟩ hI hN hK hS hG0 (trivial) rfl hl.1 rfl (Nat.le_of_ble_eq_true rfl) dX12_matters_33 ⟨Nat.zero_le _, Nat.zero_le _⟩ (fun H locs hI hp hS => ?_)
          refine lv_aload_n hx hb dX12_matters_36 rfl (lv_at hl 0 rfl) ?_
          refine lv_iload_n hx hb dX12_matters_37 rfl (lv_at hl 1 rfl) ?_
          refine lv_iload_n hx hb dX12_matters_38 rfl (lv_at hl 2 rfl) ?_
          refine lv_iload_n hx hb dX12_matters_39 rfl (lv_at hl 3 rfl) ?_
          refine mr_i (As := [.int x1, .int x2, .int x3]) (rest := []) (n := 3) (d := 0) ⟨hx, hb, hml, hown, hts⟩ (c_X12_floats l E D G H h0 hG0 x1 x2 x3 ⟨by omega, by omega⟩ (by omega) (by omega)) wd_1658 wd_1660 wp_77 wd_13 wd_1661 (by decide +kernel) ⟨by rw [hR]; exact Nat.le_of_ble_eq_true rfl, by rw [hR]; exact Nat.le_of_ble_eq_true rfl⟩ hI hN hK hS hG0 rfl hl.1 rfl (Nat.le_of_ble_eq_true rfl) dX12_matters_40 ⟨Nat.zero_le _, Nat.zero_le _⟩ (fun r8514 locs hp hS => ?_)
          have hp8515 := hp
          refine lv_istore (lv' := [(5, .int r8514), (0, .ref h0), (1, .int x1), (2, .int x2), (3, .int x3), (4, .int x4)]) hx hb dX12_matters_43 hl (by decide) rfl (fun ls hl => ?_)
          refine lv_iload_n hx hb dX12_matters_45 rfl (lv_at hl 2 rfl) ?_
          refine lv_istore (lv' := [(6, .int x1), (5, .int r8514), (0, .ref h0), (1, .int x1), (2, .int x2), (3, .int x3), (4, .int x4)]) hx hb dX12_matters_46 hl (by decide) rfl (fun ls hl => ?_)
          refine lv_iconst (v := 0) hx hb dX12_matters_48 (by decide) ?_
          refine lv_istore (lv' := [(7, .int 0), (6, .int x1), (5, .int r8514), (0, .ref h0), (1, .int x1), (2, .int x2), (3, .int x3), (4, .int x4)]) hx hb dX12_matters_49 hl (by decide) rfl (fun ls hl => ?_)
          refine lv_iload_n hx hb dX12_matters_51 rfl (lv_at hl 5 rfl) ?_
          refine lv_istore (lv' := [(8, .int x2), (7, .int 0), (6, .int x1), (5, .int r8514), (0, .ref h0), (1, .int x1), (2, .int x2), (3, .int x3), (4, .int x4)]) hx hb dX12_matters_52 hl (by decide) rfl (fun ls hl => ?_)
          exact J_54 _ H locs ls x2 0 x1 r8514  rfl (lv_sub hl [0, 1, 2, 3, 4, 5, 6, 7, 8] rfl) ⟨by omega, by omega⟩ ⟨by omega, by omega⟩ ⟨by omega, by omega⟩ ⟨by omega, by omega⟩ ⟨by omega, by omega⟩ ⟨by omega, by omega⟩ (by omega) hI hS
        · skip
          have k8516 := iv_nle (X := (-1)) (Y := x4.toInt) (by decide) rfl c8511
          exact J_30 s.heap locs ls   (lv_sub hl [0, 1, 2, 3, 4] rfl)  hI hS
      · skip
        try simp only [rg, not_and, Int.not_le] at hp
        have hp8517 := hp
        try rw [show (96 : Int32).toInt = 96 from by decide] at hp8517
        refine lv_if_eq (tgt := 30) hx hb dX12_matters_21 (by decide) (fun _ => ?_) (fun c => absurd c (by decide))
        exact J_30 s.heap locs ls   (lv_sub hl [0, 1, 2, 3, 4] rfl)  hI hS
    · skip
      try simp only [rg, not_and, Int.not_le] at hp
      have hp8518 := hp
      refine lv_if_eq (tgt := 30) hx hb dX12_matters_11 (by decide) (fun _ => ?_) (fun c => absurd c (by decide))
      exact J_30 s.heap locs ls   (lv_sub hl [0, 1, 2, 3, 4] rfl)  hI hS
  · skip
    try simp only [rg, not_and, Int.not_le] at hp
    have hp8519 := hp
    refine lv_if_eq (tgt := 30) hx hb dX12_matters_4 (by decide) (fun _ => ?_) (fun c => absurd c (by decide))
    exact J_30 s.heap locs ls   (lv_sub hl [0, 1, 2, 3, 4] rfl)  hI hS
theorem dX12_wish_0g : (decode cX12_wish 0 = .ok (.iload_n 1, 1)) ∧ (decode cX12_wish 1 = .ok (.invokestatic 118, 3)) ∧ (decode cX12_wish 4 = .ok (.ifCond .eq 28, 3)) ∧ (decode cX12_wish 7 = .ok (.iload_n 2, 1)) ∧ (decode cX12_wish 8 = .ok (.invokestatic 298, 3)) ∧ (decode cX12_wish 11 = .ok (.ifCond .eq 21, 3)) ∧ (decode cX12_wish 14 = .ok (.iload_n 3, 1)) ∧ (decode cX12_wish 15 = .ok (.invokestatic 304, 3)) ∧ (decode cX12_wish 18 = .ok (.ifCond .eq 14, 3)) ∧ (decode cX12_wish 21 = .ok (.iload 4, 2)) := by decide +kernel
theorem dX12_wish_0 : decode cX12_wish 0 = .ok (.iload_n 1, 1) := dX12_wish_0g.1
theorem dX12_wish_1 : decode cX12_wish 1 = .ok (.invokestatic 118, 3) := dX12_wish_0g.2.1
theorem dX12_wish_4 : decode cX12_wish 4 = .ok (.ifCond .eq 28, 3) := dX12_wish_0g.2.2.1
theorem dX12_wish_7 : decode cX12_wish 7 = .ok (.iload_n 2, 1) := dX12_wish_0g.2.2.2.1
theorem dX12_wish_8 : decode cX12_wish 8 = .ok (.invokestatic 298, 3) := dX12_wish_0g.2.2.2.2.1
theorem dX12_wish_11 : decode cX12_wish 11 = .ok (.ifCond .eq 21, 3) := dX12_wish_0g.2.2.2.2.2.1
theorem dX12_wish_14 : decode cX12_wish 14 = .ok (.iload_n 3, 1) := dX12_wish_0g.2.2.2.2.2.2.1
theorem dX12_wish_15 : decode cX12_wish 15 = .ok (.invokestatic 304, 3) := dX12_wish_0g.2.2.2.2.2.2.2.1
theorem dX12_wish_18 : decode cX12_wish 18 = .ok (.ifCond .eq 14, 3) := dX12_wish_0g.2.2.2.2.2.2.2.2.1
theorem dX12_wish_21 : decode cX12_wish 21 = .ok (.iload 4, 2) := dX12_wish_0g.2.2.2.2.2.2.2.2.2
theorem dX12_wish_23g : (decode cX12_wish 23 = .ok (.iload_n 2, 1)) ∧ (decode cX12_wish 24 = .ok (.bipush 96, 2)) ∧ (decode cX12_wish 26 = .ok (.invokestatic 103, 3)) ∧ (decode cX12_wish 29 = .ok (.ifCond .ne 9, 3)) ∧ (decode cX12_wish 32 = .ok (.aload_n 0, 1)) ∧ (decode cX12_wish 33 = .ok (.iconst (-1), 1)) ∧ (decode cX12_wish 34 = .ok (.invokevirtual 107, 3)) ∧ (decode cX12_wish 37 = .ok (.ireturn, 1)) ∧ (decode cX12_wish 38 = .ok (.aload_n 0, 1)) ∧ (decode cX12_wish 39 = .ok (.getfield 20, 3)) := by decide +kernel
theorem dX12_wish_23 : decode cX12_wish 23 = .ok (.iload_n 2, 1) := dX12_wish_23g.1
theorem dX12_wish_24 : decode cX12_wish 24 = .ok (.bipush 96, 2) := dX12_wish_23g.2.1
theorem dX12_wish_26 : decode cX12_wish 26 = .ok (.invokestatic 103, 3) := dX12_wish_23g.2.2.1
theorem dX12_wish_29 : decode cX12_wish 29 = .ok (.ifCond .ne 9, 3) := dX12_wish_23g.2.2.2.1
theorem dX12_wish_32 : decode cX12_wish 32 = .ok (.aload_n 0, 1) := dX12_wish_23g.2.2.2.2.1
theorem dX12_wish_33 : decode cX12_wish 33 = .ok (.iconst (-1), 1) := dX12_wish_23g.2.2.2.2.2.1
theorem dX12_wish_34 : decode cX12_wish 34 = .ok (.invokevirtual 107, 3) := dX12_wish_23g.2.2.2.2.2.2.1
theorem dX12_wish_37 : decode cX12_wish 37 = .ok (.ireturn, 1) := dX12_wish_23g.2.2.2.2.2.2.2.1
theorem dX12_wish_38 : decode cX12_wish 38 = .ok (.aload_n 0, 1) := dX12_wish_23g.2.2.2.2.2.2.2.2.1
theorem dX12_wish_39 : decode cX12_wish 39 = .ok (.getfield 20, 3) := dX12_wish_23g.2.2.2.2.2.2.2.2.2
theorem dX12_wish_42g : (decode cX12_wish 42 = .ok (.sipush 314, 3)) ∧ (decode cX12_wish 45 = .ok (.iaload, 1)) ∧ (decode cX12_wish 46 = .ok (.bipush 6, 2)) ∧ (decode cX12_wish 48 = .ok (.if_icmp .ne 10, 3)) ∧ (decode cX12_wish 51 = .ok (.aload_n 0, 1)) ∧ (decode cX12_wish 52 = .ok (.bipush (-5), 2)) ∧ (decode cX12_wish 54 = .ok (.invokevirtual 107, 3)) ∧ (decode cX12_wish 57 = .ok (.ireturn, 1)) ∧ (decode cX12_wish 58 = .ok (.aload_n 0, 1)) ∧ (decode cX12_wish 59 = .ok (.aload_n 0, 1)) := by decide +kernel
theorem dX12_wish_42 : decode cX12_wish 42 = .ok (.sipush 314, 3) := dX12_wish_42g.1
theorem dX12_wish_45 : decode cX12_wish 45 = .ok (.iaload, 1) := dX12_wish_42g.2.1
theorem dX12_wish_46 : decode cX12_wish 46 = .ok (.bipush 6, 2) := dX12_wish_42g.2.2.1
theorem dX12_wish_48 : decode cX12_wish 48 = .ok (.if_icmp .ne 10, 3) := dX12_wish_42g.2.2.2.1
theorem dX12_wish_51 : decode cX12_wish 51 = .ok (.aload_n 0, 1) := dX12_wish_42g.2.2.2.2.1
theorem dX12_wish_52 : decode cX12_wish 52 = .ok (.bipush (-5), 2) := dX12_wish_42g.2.2.2.2.2.1
theorem dX12_wish_54 : decode cX12_wish 54 = .ok (.invokevirtual 107, 3) := dX12_wish_42g.2.2.2.2.2.2.1
theorem dX12_wish_57 : decode cX12_wish 57 = .ok (.ireturn, 1) := dX12_wish_42g.2.2.2.2.2.2.2.1
theorem dX12_wish_58 : decode cX12_wish 58 = .ok (.aload_n 0, 1) := dX12_wish_42g.2.2.2.2.2.2.2.2.1
theorem dX12_wish_59 : decode cX12_wish 59 = .ok (.aload_n 0, 1) := dX12_wish_42g.2.2.2.2.2.2.2.2.2
theorem dX12_wish_60g : (decode cX12_wish 60 = .ok (.sipush 282, 3)) ∧ (decode cX12_wish 63 = .ok (.sipush 314, 3)) ∧ (decode cX12_wish 66 = .ok (.iconst 4, 1)) ∧ (decode cX12_wish 67 = .ok (.iload_n 1, 1)) ∧ (decode cX12_wish 68 = .ok (.iload_n 2, 1)) ∧ (decode cX12_wish 69 = .ok (.iload_n 3, 1)) ∧ (decode cX12_wish 70 = .ok (.iload 4, 2)) ∧ (decode cX12_wish 72 = .ok (.invokevirtual 125, 3)) ∧ (decode cX12_wish 75 = .ok (.invokevirtual 111, 3)) ∧ (decode cX12_wish 78 = .ok (.ireturn, 1)) := by decide +kernel
theorem dX12_wish_60 : decode cX12_wish 60 = .ok (.sipush 282, 3) := dX12_wish_60g.1
theorem dX12_wish_63 : decode cX12_wish 63 = .ok (.sipush 314, 3) := dX12_wish_60g.2.1
theorem dX12_wish_66 : decode cX12_wish 66 = .ok (.iconst 4, 1) := dX12_wish_60g.2.2.1
theorem dX12_wish_67 : decode cX12_wish 67 = .ok (.iload_n 1, 1) := dX12_wish_60g.2.2.2.1
theorem dX12_wish_68 : decode cX12_wish 68 = .ok (.iload_n 2, 1) := dX12_wish_60g.2.2.2.2.1
theorem dX12_wish_69 : decode cX12_wish 69 = .ok (.iload_n 3, 1) := dX12_wish_60g.2.2.2.2.2.1
theorem dX12_wish_70 : decode cX12_wish 70 = .ok (.iload 4, 2) := dX12_wish_60g.2.2.2.2.2.2.1
theorem dX12_wish_72 : decode cX12_wish 72 = .ok (.invokevirtual 125, 3) := dX12_wish_60g.2.2.2.2.2.2.2.1
theorem dX12_wish_75 : decode cX12_wish 75 = .ok (.invokevirtual 111, 3) := dX12_wish_60g.2.2.2.2.2.2.2.2.1
theorem dX12_wish_78 : decode cX12_wish 78 = .ok (.ireturn, 1) := dX12_wish_60g.2.2.2.2.2.2.2.2.2
set_option maxHeartbeats 4000000 in
set_option maxRecDepth 100000 in
theorem c_X12_wish (l : Launch) (E : Nat → Nat) (D : va_G) (G : th_G) (h0 : Nat) (hG0 : G h0 = some (10, 0)) (x1 : Int32) (x2 : Int32) (x3 : Int32) (x4 : Int32) : Met l yX12_wish (tb (.code yX12_wish cX12_wish 5 (some .int))) (rm 2) (va_Pc [.ref h0, .int x1, .int x2, .int x3, .int x4] (PX E D G (fun H => True))) (QXi E D G (fun r H => True)) 0 0 (th_A G) := by
  refine Met.ofW (cc := cX12_wish) (maxL := 5) (ret := (some .int)) (by decide) rfl ?_
  intro p e s m args below meth c s₁ B hml hv
  obtain ⟨hav, ⟨hI, hN, hK⟩, hX⟩ := hv
  have hx := B.exec
  have hb := B.bytes
  have hr := B.returns
  have hts := atoms_spec (ws := tb (.code yX12_wish cX12_wish 5 (some .int))) B.pre
  have hown : s.vm.findClass RX12 = some m.cls := findClass_of_methodNamed B.named
  have hlocks := B.notSynchronized
  have hS : va_S (th_A G) s.heap s.heap [] := va_S.rf
  have hl := lv_entry ([.ref h0, .int x1, .int x2, .int x3, .int x4]) (n := 5) (Nat.le_of_ble_eq_true rfl)
  rw [show entryFrame m args 5 = entryFrame m ([.ref h0, .int x1, .int x2, .int x3, .int x4] : List Value).toArray 5 from by rw [hav], lg_entry_eq]
  generalize (lg_sl ([.ref h0, .int x1, .int x2, .int x3, .int x4]) ++ List.replicate (5 - (lg_sl ([.ref h0, .int x1, .int x2, .int x3, .int x4])).length) Slot.unset).toArray = ls at hl ⊢
  have hl : lv_has ls 5 [(0, .ref h0), (1, .int x1), (2, .int x2), (3, .int x3), (4, .int x4)] := hl
  generalize hR : (headSpec (tb (.code yX12_wish cX12_wish 5 (some .int))) (rm 2)).room = R
  have hR := hR.symm
  generalize hQ : MQ below (QXi E D G (fun r H => True)) args s 0 0 (th_A G) = QF
  have hQ := hQ.symm
  have J_32 : ∀ (H : Heap) (locs : List Loc) (ls : Array Slot)  , lv_has ls 5 [(0, .ref h0), (1, .int x1), (2, .int x2), (3, .int x3), (4, .int x4)] → th_I (okM E) D G [] H → va_S (th_A G) s.heap H locs → W p l e R s m args below meth c H locs 0 0 QF (F0 m 32 ls []) := by
    intro H locs ls   hl  hI hS
    refine lv_aload_n hx hb dX12_wish_32 rfl (lv_at hl 0 rfl) ?_
    refine lv_iconst (v := (-1)) hx hb dX12_wish_33 (by decide) ?_
    refine mx_i (As := [.int (-1)]) (rest := []) (n := 1) (d := 0) ⟨hx, hb, hml, hown, hts⟩ (c_X12_refuses l E D G h0 hG0 (-1) ⟨by decide, by decide⟩) wd_1398 wd_1400 wp_40 wd_13 wd_1401 (by decide +kernel) ⟨by rw [hR]; exact Nat.le_of_ble_eq_true rfl, by rw [hR]; exact Nat.le_of_ble_eq_true rfl⟩ hI hN hK hS hG0 (trivial) rfl hl.1 rfl (Nat.le_of_ble_eq_true rfl) dX12_wish_34 ⟨Nat.zero_le _, Nat.zero_le _⟩ (fun r224 H locs hI hp hS => ?_)
    obtain rfl := hp.symm
    have hpost : True := trivial
    rw [hQ]
    exact W.iret (v := (-1)) hx hb hr (fun t ht hW => ⟨⟨(-1), (-1), rfl, rfl, ⟨by rw [ht]; exact hI, hN.warm hW, va_K.moved hW.alike hK⟩, by first | (rw [ht]; exact hpost) | exact hpost⟩, hS.F ht⟩) hS.2.2 dX12_wish_37
  refine lv_iload_n hx hb dX12_wish_0 rfl (lv_at hl 1 rfl) ?_
  refine th_cSs (As := [.int x1]) (rest := []) (n := 1) (d := 1) ⟨hx, hb, hml, hown, hts⟩ (c_X12_isCell l s.heap x1) wd_1414 wd_1415 wd_13 wd_1416 (by decide +kernel) ⟨by rw [hR]; exact Nat.le_of_ble_eq_true rfl, by rw [hR]; exact Nat.le_of_ble_eq_true rfl⟩ hN hS rfl hl.1 rfl (Nat.le_of_ble_eq_true rfl) dX12_wish_1 ⟨Nat.zero_le _, Nat.zero_le _⟩ (fun r225 locs hp hS => ?_)
  rcases hp with ⟨rfl, hp⟩ | ⟨rfl, hp⟩
  · skip
    try simp only [rg, not_and, Int.not_le] at hp
    have hp226 := hp
    refine lv_if_eq (tgt := 32) hx hb dX12_wish_4 (by decide) (fun c => absurd c (by decide)) (fun _ => ?_)
    refine lv_iload_n hx hb dX12_wish_7 rfl (lv_at hl 2 rfl) ?_
    refine th_cSs (As := [.int x2]) (rest := []) (n := 1) (d := 1) ⟨hx, hb, hml, hown, hts⟩ (c_X12_isTime l s.heap x2) wd_1655 wd_1656 wd_13 wd_1657 (by decide +kernel) ⟨by rw [hR]; exact Nat.le_of_ble_eq_true rfl, by rw [hR]; exact Nat.le_of_ble_eq_true rfl⟩ hN hS rfl hl.1 rfl (Nat.le_of_ble_eq_true rfl) dX12_wish_8 ⟨Nat.zero_le _, Nat.zero_le _⟩ (fun r227 locs hp hS => ?_)
    rcases hp with ⟨rfl, hp⟩ | ⟨rfl, hp⟩
    · skip
      try simp only [rg, not_and, Int.not_le] at hp
      have hp228 := hp
      refine lv_if_eq (tgt := 32) hx hb dX12_wish_11 (by decide) (fun c => absurd c (by decide)) (fun _ => ?_)
      refine lv_iload_n hx hb dX12_wish_14 rfl (lv_at hl 3 rfl) ?_
      refine th_cSs (As := [.int x3]) (rest := []) (n := 1) (d := 1) ⟨hx, hb, hml, hown, hts⟩ (c_X12_isPlace l s.heap x3) wd_1670 wd_1671 wd_13 wd_1672 (by decide +kernel) ⟨by rw [hR]; exact Nat.le_of_ble_eq_true rfl, by rw [hR]; exact Nat.le_of_ble_eq_true rfl⟩ hN hS rfl hl.1 rfl (Nat.le_of_ble_eq_true rfl) dX12_wish_15 ⟨Nat.zero_le _, Nat.zero_le _⟩ (fun r229 locs hp hS => ?_)
      rcases hp with ⟨rfl, hp⟩ | ⟨rfl, hp⟩
      · skip
        try simp only [rg, not_and, Int.not_le] at hp
        have hp230 := hp
        refine lv_if_eq (tgt := 32) hx hb dX12_wish_18 (by decide) (fun c => absurd c (by decide)) (fun _ => ?_)
        refine lv_iload hx hb dX12_wish_21 (lv_at hl 4 rfl) ?_
        refine lv_iload_n hx hb dX12_wish_23 rfl (lv_at hl 2 rfl) ?_
        refine lv_bipush (v := 96) hx hb dX12_wish_24 (by decide) ?_
        refine th_cSs (As := [.int x4, .int x2, .int 96]) (rest := []) (n := 3) (d := 0) ⟨hx, hb, hml, hown, hts⟩ (c_X12_lies l s.heap x4 x2 96) wd_1395 wd_1396 wd_13 wd_1397 (by decide +kernel) ⟨by rw [hR]; exact Nat.le_of_ble_eq_true rfl, by rw [hR]; exact Nat.le_of_ble_eq_true rfl⟩ hN hS rfl hl.1 rfl (Nat.le_of_ble_eq_true rfl) dX12_wish_26 ⟨Nat.zero_le _, Nat.zero_le _⟩ (fun r231 locs hp hS => ?_)
        rcases hp with ⟨rfl, hp⟩ | ⟨rfl, hp⟩
        · skip
          try simp only [rg, not_and, Int.not_le] at hp
          have hp232 := hp
          try rw [show (96 : Int32).toInt = 96 from by decide] at hp232
          refine lv_if_ne (tgt := 38) hx hb dX12_wish_29 (by decide) (fun _ => ?_) (fun c => absurd c (by decide))
          refine lv_aload_n hx hb dX12_wish_38 rfl (lv_at hl 0 rfl) ?_
          refine gmA hx hb hts inT12 hown hK hI List.not_mem_nil hG0 3 (by decide) (hts _ (tb_c wd_1236)) rfl rfl dX12_wish_39 (fun a233 hq234 hf235 => ?_)
          refine lv_sipush (v := 314) hx hb dX12_wish_42 (by decide) ?_
          obtain ⟨F236, hA237, hP238⟩ := om_1 hI hq234 List.not_mem_nil
          refine th_iald hx hb hK hA237 0 rfl (iv_in (X := (314)) (by decide) (by omega) (by omega)) dX12_wish_45 (fun v239 e240 => ?_)
          have k241 := kg_m314 (kOk.get (i := 314) hP238 e240 (X := (314)) (by decide) (by omega) (by omega)) (by omega) (by omega) (by omega)
          refine lv_bipush (v := 6) hx hb dX12_wish_46 (by decide) ?_
          refine lv_icmp_ne (tgt := 58) hx hb dX12_wish_48 (by decide) (fun c242 => ?_) (fun c242 => ?_)
          · skip
            have k243 := iv_ne (X := v239.toInt) (Y := (6)) rfl (by decide) c242
            refine lv_aload_n hx hb dX12_wish_58 rfl (lv_at hl 0 rfl) ?_
            refine lv_aload_n hx hb dX12_wish_59 rfl (lv_at hl 0 rfl) ?_
            refine lv_sipush (v := 282) hx hb dX12_wish_60 (by decide) ?_
            refine lv_sipush (v := 314) hx hb dX12_wish_63 (by decide) ?_
            refine lv_iconst (v := 4) hx hb dX12_wish_66 (by decide) ?_
            refine lv_iload_n hx hb dX12_wish_67 rfl (lv_at hl 1 rfl) ?_
            refine lv_iload_n hx hb dX12_wish_68 rfl (lv_at hl 2 rfl) ?_
            refine lv_iload_n hx hb dX12_wish_69 rfl (lv_at hl 3 rfl) ?_
            refine lv_iload hx hb dX12_wish_70 (lv_at hl 4 rfl) ?_
            refine mx_i (As := [.int 282, .int 314, .int 4, .int x1, .int x2, .int x3, .int x4]) (rest := [.ref h0]) (n := 7) (d := 0) ⟨hx, hb, hml, hown, hts⟩ (c_X12_comesBehind_314 l E D G h0 hG0 x1 x2 x3 x4 ⟨by omega, by omega⟩ ⟨by omega, by omega⟩ ⟨by omega, by omega⟩ F236 hP238 (lt_of_rd e240 rfl (by omega))) wd_1435 wd_1437 wp_42 wd_13 wd_1438 (by decide +kernel) ⟨by rw [hR]; exact Nat.le_of_ble_eq_true rfl, by rw [hR]; exact Nat.le_of_ble_eq_true rfl⟩ hI hN hK hS hG0 (⟨a233, hf235, hq234, hA237⟩) rfl hl.1 rfl (Nat.le_of_ble_eq_true rfl) dX12_wish_72 ⟨Nat.zero_le _, Nat.zero_le _⟩ (fun r244 H locs hI hp hS => ?_)
            refine mx_i (As := [.int r244]) (rest := []) (n := 1) (d := 0) ⟨hx, hb, hml, hown, hts⟩ (c_X12_good l E D G h0 hG0 r244) wd_1402 wd_1404 wp_41 wd_13 wd_1405 (by decide +kernel) ⟨by rw [hR]; exact Nat.le_of_ble_eq_true rfl, by rw [hR]; exact Nat.le_of_ble_eq_true rfl⟩ hI hN hK hS hG0 (trivial) rfl hl.1 rfl (Nat.le_of_ble_eq_true rfl) dX12_wish_75 ⟨Nat.zero_le _, Nat.zero_le _⟩ (fun r245 H locs hI hp hS => ?_)
            obtain rfl := hp.symm
            have hpost : True := trivial
            rw [hQ]
            exact W.iret (v := r244) hx hb hr (fun t ht hW => ⟨⟨r244, r244, rfl, rfl, ⟨by rw [ht]; exact hI, hN.warm hW, va_K.moved hW.alike hK⟩, by first | (rw [ht]; exact hpost) | exact hpost⟩, hS.F ht⟩) hS.2.2 dX12_wish_78
          · skip
            have k246 := iv_eq (X := v239.toInt) (Y := (6)) rfl (by decide) c242
            refine lv_aload_n hx hb dX12_wish_51 rfl (lv_at hl 0 rfl) ?_
            refine lv_bipush (v := (-5)) hx hb dX12_wish_52 (by decide) ?_
            refine mx_i (As := [.int (-5)]) (rest := []) (n := 1) (d := 0) ⟨hx, hb, hml, hown, hts⟩ (c_X12_refuses l E D G h0 hG0 (-5) ⟨by decide, by decide⟩) wd_1398 wd_1400 wp_40 wd_13 wd_1401 (by decide +kernel) ⟨by rw [hR]; exact Nat.le_of_ble_eq_true rfl, by rw [hR]; exact Nat.le_of_ble_eq_true rfl⟩ hI hN hK hS hG0 (trivial) rfl hl.1 rfl (Nat.le_of_ble_eq_true rfl) dX12_wish_54 ⟨Nat.zero_le _, Nat.zero_le _⟩ (fun r247 H locs hI hp hS => ?_)
            obtain rfl := hp.symm
            have hpost : True := trivial
            rw [hQ]
            exact W.iret (v := (-5)) hx hb hr (fun t ht hW => ⟨⟨(-5), (-5), rfl, rfl, ⟨by rw [ht]; exact hI, hN.warm hW, va_K.moved hW.alike hK⟩, by first | (rw [ht]; exact hpost) | exact hpost⟩, hS.F ht⟩) hS.2.2 dX12_wish_57
        · skip
          try simp only [rg, not_and, Int.not_le] at hp
          have hp248 := hp
          try rw [show (96 : Int32).toInt = 96 from by decide] at hp248
          refine lv_if_ne (tgt := 38) hx hb dX12_wish_29 (by decide) (fun c => absurd c (by decide)) (fun _ => ?_)
          exact J_32 s.heap locs ls   (lv_sub hl [0, 1, 2, 3, 4] rfl)  hI hS
      · skip
        try simp only [rg, not_and, Int.not_le] at hp
        have hp249 := hp
        refine lv_if_eq (tgt := 32) hx hb dX12_wish_18 (by decide) (fun _ => ?_) (fun c => absurd c (by decide))
        exact J_32 s.heap locs ls   (lv_sub hl [0, 1, 2, 3, 4] rfl)  hI hS
    · skip
      try simp only [rg, not_and, Int.not_le] at hp
      have hp250 := hp
      refine lv_if_eq (tgt := 32) hx hb dX12_wish_11 (by decide) (fun _ => ?_) (fun c => absurd c (by decide))
      exact J_32 s.heap locs ls   (lv_sub hl [0, 1, 2, 3, 4] rfl)  hI hS
  · skip
    try simp only [rg, not_and, Int.not_le] at hp
    have hp251 := hp
    refine lv_if_eq (tgt := 32) hx hb dX12_wish_4 (by decide) (fun _ => ?_) (fun c => absurd c (by decide))
    exact J_32 s.heap locs ls   (lv_sub hl [0, 1, 2, 3, 4] rfl)  hI hS
theorem dX12_drop_0g : (decode cX12_drop 0 = .ok (.aload_n 0, 1)) ∧ (decode cX12_drop 1 = .ok (.sipush 314, 3)) ∧ (decode cX12_drop 4 = .ok (.invokevirtual 345, 3)) ∧ (decode cX12_drop 7 = .ok (.ireturn, 1)) := by decide +kernel
theorem dX12_drop_0 : decode cX12_drop 0 = .ok (.aload_n 0, 1) := dX12_drop_0g.1
theorem dX12_drop_1 : decode cX12_drop 1 = .ok (.sipush 314, 3) := dX12_drop_0g.2.1
theorem dX12_drop_4 : decode cX12_drop 4 = .ok (.invokevirtual 345, 3) := dX12_drop_0g.2.2.1
theorem dX12_drop_7 : decode cX12_drop 7 = .ok (.ireturn, 1) := dX12_drop_0g.2.2.2
set_option maxHeartbeats 4000000 in
set_option maxRecDepth 100000 in
theorem c_X12_drop (l : Launch) (E : Nat → Nat) (D : va_G) (G : th_G) (h0 : Nat) (hG0 : G h0 = some (10, 0)) : Met l yX12_drop (tb (.code yX12_drop cX12_drop 1 (some .int))) (rm 1) (va_Pc [.ref h0] (PX E D G (fun H => True))) (QXi E D G (fun r H => True)) 0 0 (th_A G) := by
  refine Met.ofW (cc := cX12_drop) (maxL := 1) (ret := (some .int)) (by decide) rfl ?_
  intro p e s m args below meth c s₁ B hml hv
  obtain ⟨hav, ⟨hI, hN, hK⟩, hX⟩ := hv
  have hx := B.exec
  have hb := B.bytes
  have hr := B.returns
  have hts := atoms_spec (ws := tb (.code yX12_drop cX12_drop 1 (some .int))) B.pre
  have hown : s.vm.findClass RX12 = some m.cls := findClass_of_methodNamed B.named
  have hlocks := B.notSynchronized
  have hS : va_S (th_A G) s.heap s.heap [] := va_S.rf
  have hl := lv_entry ([.ref h0]) (n := 1) (Nat.le_of_ble_eq_true rfl)
  rw [show entryFrame m args 1 = entryFrame m ([.ref h0] : List Value).toArray 1 from by rw [hav], lg_entry_eq]
  generalize (lg_sl ([.ref h0]) ++ List.replicate (1 - (lg_sl ([.ref h0])).length) Slot.unset).toArray = ls at hl ⊢
  have hl : lv_has ls 1 [(0, .ref h0)] := hl
  generalize hR : (headSpec (tb (.code yX12_drop cX12_drop 1 (some .int))) (rm 1)).room = R
  have hR := hR.symm
  generalize hQ : MQ below (QXi E D G (fun r H => True)) args s 0 0 (th_A G) = QF
  have hQ := hQ.symm
  refine lv_aload_n hx hb dX12_drop_0 rfl (lv_at hl 0 rfl) ?_
  refine lv_sipush (v := 314) hx hb dX12_drop_1 (by decide) ?_
  refine mx_i (As := [.int 314]) (rest := []) (n := 1) (d := 0) ⟨hx, hb, hml, hown, hts⟩ (c_X12_goAll_314 l E D G h0 hG0 ) wd_1749 wd_1751 wp_85 wd_13 wd_1752 (by decide +kernel) ⟨by rw [hR]; exact Nat.le_of_ble_eq_true rfl, by rw [hR]; exact Nat.le_of_ble_eq_true rfl⟩ hI hN hK hS hG0 (trivial) rfl hl.1 rfl (Nat.le_of_ble_eq_true rfl) dX12_drop_4 ⟨Nat.zero_le _, Nat.zero_le _⟩ (fun r1 H locs hI hp hS => ?_)
  have hpost : True := trivial
  rw [hQ]
  exact W.iret (v := r1) hx hb hr (fun t ht hW => ⟨⟨r1, r1, rfl, rfl, ⟨by rw [ht]; exact hI, hN.warm hW, va_K.moved hW.alike hK⟩, by first | (rw [ht]; exact hpost) | exact hpost⟩, hS.F ht⟩) hS.2.2 dX12_drop_7
theorem dX12_grants_0g : (decode cX12_grants 0 = .ok (.iconst 0, 1)) ∧ (decode cX12_grants 1 = .ok (.istore_n 1, 1)) ∧ (decode cX12_grants 2 = .ok (.iconst 0, 1)) ∧ (decode cX12_grants 3 = .ok (.istore_n 2, 1)) ∧ (decode cX12_grants 4 = .ok (.iload_n 2, 1)) ∧ (decode cX12_grants 5 = .ok (.aload_n 0, 1)) ∧ (decode cX12_grants 6 = .ok (.getfield 20, 3)) ∧ (decode cX12_grants 9 = .ok (.sipush 314, 3)) ∧ (decode cX12_grants 12 = .ok (.iaload, 1)) ∧ (decode cX12_grants 13 = .ok (.if_icmp .ge 80, 3)) := by decide +kernel
theorem dX12_grants_0 : decode cX12_grants 0 = .ok (.iconst 0, 1) := dX12_grants_0g.1
theorem dX12_grants_1 : decode cX12_grants 1 = .ok (.istore_n 1, 1) := dX12_grants_0g.2.1
theorem dX12_grants_2 : decode cX12_grants 2 = .ok (.iconst 0, 1) := dX12_grants_0g.2.2.1
theorem dX12_grants_3 : decode cX12_grants 3 = .ok (.istore_n 2, 1) := dX12_grants_0g.2.2.2.1
theorem dX12_grants_4 : decode cX12_grants 4 = .ok (.iload_n 2, 1) := dX12_grants_0g.2.2.2.2.1
theorem dX12_grants_5 : decode cX12_grants 5 = .ok (.aload_n 0, 1) := dX12_grants_0g.2.2.2.2.2.1
theorem dX12_grants_6 : decode cX12_grants 6 = .ok (.getfield 20, 3) := dX12_grants_0g.2.2.2.2.2.2.1
theorem dX12_grants_9 : decode cX12_grants 9 = .ok (.sipush 314, 3) := dX12_grants_0g.2.2.2.2.2.2.2.1
theorem dX12_grants_12 : decode cX12_grants 12 = .ok (.iaload, 1) := dX12_grants_0g.2.2.2.2.2.2.2.2.1
theorem dX12_grants_13 : decode cX12_grants 13 = .ok (.if_icmp .ge 80, 3) := dX12_grants_0g.2.2.2.2.2.2.2.2.2
theorem dX12_grants_16g : (decode cX12_grants 16 = .ok (.iload_n 1, 1)) ∧ (decode cX12_grants 17 = .ok (.aload_n 0, 1)) ∧ (decode cX12_grants 18 = .ok (.aload_n 0, 1)) ∧ (decode cX12_grants 19 = .ok (.getfield 20, 3)) ∧ (decode cX12_grants 22 = .ok (.sipush 282, 3)) ∧ (decode cX12_grants 25 = .ok (.iconst 4, 1)) ∧ (decode cX12_grants 26 = .ok (.iload_n 2, 1)) ∧ (decode cX12_grants 27 = .ok (.imul, 1)) ∧ (decode cX12_grants 28 = .ok (.iadd, 1)) ∧ (decode cX12_grants 29 = .ok (.iaload, 1)) := by decide +kernel
theorem dX12_grants_16 : decode cX12_grants 16 = .ok (.iload_n 1, 1) := dX12_grants_16g.1
theorem dX12_grants_17 : decode cX12_grants 17 = .ok (.aload_n 0, 1) := dX12_grants_16g.2.1
theorem dX12_grants_18 : decode cX12_grants 18 = .ok (.aload_n 0, 1) := dX12_grants_16g.2.2.1
theorem dX12_grants_19 : decode cX12_grants 19 = .ok (.getfield 20, 3) := dX12_grants_16g.2.2.2.1
theorem dX12_grants_22 : decode cX12_grants 22 = .ok (.sipush 282, 3) := dX12_grants_16g.2.2.2.2.1
theorem dX12_grants_25 : decode cX12_grants 25 = .ok (.iconst 4, 1) := dX12_grants_16g.2.2.2.2.2.1
theorem dX12_grants_26 : decode cX12_grants 26 = .ok (.iload_n 2, 1) := dX12_grants_16g.2.2.2.2.2.2.1
theorem dX12_grants_27 : decode cX12_grants 27 = .ok (.imul, 1) := dX12_grants_16g.2.2.2.2.2.2.2.1
theorem dX12_grants_28 : decode cX12_grants 28 = .ok (.iadd, 1) := dX12_grants_16g.2.2.2.2.2.2.2.2.1
theorem dX12_grants_29 : decode cX12_grants 29 = .ok (.iaload, 1) := dX12_grants_16g.2.2.2.2.2.2.2.2.2
theorem dX12_grants_30g : (decode cX12_grants 30 = .ok (.aload_n 0, 1)) ∧ (decode cX12_grants 31 = .ok (.getfield 20, 3)) ∧ (decode cX12_grants 34 = .ok (.sipush 282, 3)) ∧ (decode cX12_grants 37 = .ok (.iconst 4, 1)) ∧ (decode cX12_grants 38 = .ok (.iload_n 2, 1)) ∧ (decode cX12_grants 39 = .ok (.imul, 1)) ∧ (decode cX12_grants 40 = .ok (.iadd, 1)) ∧ (decode cX12_grants 41 = .ok (.iconst 1, 1)) ∧ (decode cX12_grants 42 = .ok (.iadd, 1)) ∧ (decode cX12_grants 43 = .ok (.iaload, 1)) := by decide +kernel
theorem dX12_grants_30 : decode cX12_grants 30 = .ok (.aload_n 0, 1) := dX12_grants_30g.1
theorem dX12_grants_31 : decode cX12_grants 31 = .ok (.getfield 20, 3) := dX12_grants_30g.2.1
theorem dX12_grants_34 : decode cX12_grants 34 = .ok (.sipush 282, 3) := dX12_grants_30g.2.2.1
theorem dX12_grants_37 : decode cX12_grants 37 = .ok (.iconst 4, 1) := dX12_grants_30g.2.2.2.1
theorem dX12_grants_38 : decode cX12_grants 38 = .ok (.iload_n 2, 1) := dX12_grants_30g.2.2.2.2.1
theorem dX12_grants_39 : decode cX12_grants 39 = .ok (.imul, 1) := dX12_grants_30g.2.2.2.2.2.1
theorem dX12_grants_40 : decode cX12_grants 40 = .ok (.iadd, 1) := dX12_grants_30g.2.2.2.2.2.2.1
theorem dX12_grants_41 : decode cX12_grants 41 = .ok (.iconst 1, 1) := dX12_grants_30g.2.2.2.2.2.2.2.1
theorem dX12_grants_42 : decode cX12_grants 42 = .ok (.iadd, 1) := dX12_grants_30g.2.2.2.2.2.2.2.2.1
theorem dX12_grants_43 : decode cX12_grants 43 = .ok (.iaload, 1) := dX12_grants_30g.2.2.2.2.2.2.2.2.2
theorem dX12_grants_44g : (decode cX12_grants 44 = .ok (.aload_n 0, 1)) ∧ (decode cX12_grants 45 = .ok (.getfield 20, 3)) ∧ (decode cX12_grants 48 = .ok (.sipush 282, 3)) ∧ (decode cX12_grants 51 = .ok (.iconst 4, 1)) ∧ (decode cX12_grants 52 = .ok (.iload_n 2, 1)) ∧ (decode cX12_grants 53 = .ok (.imul, 1)) ∧ (decode cX12_grants 54 = .ok (.iadd, 1)) ∧ (decode cX12_grants 55 = .ok (.iconst 3, 1)) ∧ (decode cX12_grants 56 = .ok (.iadd, 1)) ∧ (decode cX12_grants 57 = .ok (.iaload, 1)) := by decide +kernel
theorem dX12_grants_44 : decode cX12_grants 44 = .ok (.aload_n 0, 1) := dX12_grants_44g.1
theorem dX12_grants_45 : decode cX12_grants 45 = .ok (.getfield 20, 3) := dX12_grants_44g.2.1
theorem dX12_grants_48 : decode cX12_grants 48 = .ok (.sipush 282, 3) := dX12_grants_44g.2.2.1
theorem dX12_grants_51 : decode cX12_grants 51 = .ok (.iconst 4, 1) := dX12_grants_44g.2.2.2.1
theorem dX12_grants_52 : decode cX12_grants 52 = .ok (.iload_n 2, 1) := dX12_grants_44g.2.2.2.2.1
theorem dX12_grants_53 : decode cX12_grants 53 = .ok (.imul, 1) := dX12_grants_44g.2.2.2.2.2.1
theorem dX12_grants_54 : decode cX12_grants 54 = .ok (.iadd, 1) := dX12_grants_44g.2.2.2.2.2.2.1
theorem dX12_grants_55 : decode cX12_grants 55 = .ok (.iconst 3, 1) := dX12_grants_44g.2.2.2.2.2.2.2.1
theorem dX12_grants_56 : decode cX12_grants 56 = .ok (.iadd, 1) := dX12_grants_44g.2.2.2.2.2.2.2.2.1
theorem dX12_grants_57 : decode cX12_grants 57 = .ok (.iaload, 1) := dX12_grants_44g.2.2.2.2.2.2.2.2.2
theorem dX12_grants_58g : (decode cX12_grants 58 = .ok (.invokevirtual 301, 3)) ∧ (decode cX12_grants 61 = .ok (.aload_n 0, 1)) ∧ (decode cX12_grants 62 = .ok (.getfield 20, 3)) ∧ (decode cX12_grants 65 = .ok (.sipush 282, 3)) ∧ (decode cX12_grants 68 = .ok (.iconst 4, 1)) ∧ (decode cX12_grants 69 = .ok (.iload_n 2, 1)) ∧ (decode cX12_grants 70 = .ok (.imul, 1)) ∧ (decode cX12_grants 71 = .ok (.iadd, 1)) ∧ (decode cX12_grants 72 = .ok (.iconst 2, 1)) ∧ (decode cX12_grants 73 = .ok (.iadd, 1)) := by decide +kernel
theorem dX12_grants_58 : decode cX12_grants 58 = .ok (.invokevirtual 301, 3) := dX12_grants_58g.1
theorem dX12_grants_61 : decode cX12_grants 61 = .ok (.aload_n 0, 1) := dX12_grants_58g.2.1
theorem dX12_grants_62 : decode cX12_grants 62 = .ok (.getfield 20, 3) := dX12_grants_58g.2.2.1
theorem dX12_grants_65 : decode cX12_grants 65 = .ok (.sipush 282, 3) := dX12_grants_58g.2.2.2.1
theorem dX12_grants_68 : decode cX12_grants 68 = .ok (.iconst 4, 1) := dX12_grants_58g.2.2.2.2.1
theorem dX12_grants_69 : decode cX12_grants 69 = .ok (.iload_n 2, 1) := dX12_grants_58g.2.2.2.2.2.1
theorem dX12_grants_70 : decode cX12_grants 70 = .ok (.imul, 1) := dX12_grants_58g.2.2.2.2.2.2.1
theorem dX12_grants_71 : decode cX12_grants 71 = .ok (.iadd, 1) := dX12_grants_58g.2.2.2.2.2.2.2.1
theorem dX12_grants_72 : decode cX12_grants 72 = .ok (.iconst 2, 1) := dX12_grants_58g.2.2.2.2.2.2.2.2.1
theorem dX12_grants_73 : decode cX12_grants 73 = .ok (.iadd, 1) := dX12_grants_58g.2.2.2.2.2.2.2.2.2
theorem dX12_grants_74g : (decode cX12_grants 74 = .ok (.iaload, 1)) ∧ (decode cX12_grants 75 = .ok (.if_icmp .ne 9, 3)) ∧ (decode cX12_grants 78 = .ok (.iconst 1, 1)) ∧ (decode cX12_grants 79 = .ok (.iload_n 2, 1)) ∧ (decode cX12_grants 80 = .ok (.ishl, 1)) ∧ (decode cX12_grants 81 = .ok (.goto 4, 3)) ∧ (decode cX12_grants 84 = .ok (.iconst 0, 1)) ∧ (decode cX12_grants 85 = .ok (.ior, 1)) ∧ (decode cX12_grants 86 = .ok (.istore_n 1, 1)) ∧ (decode cX12_grants 87 = .ok (.iinc 2 1, 3)) := by decide +kernel
theorem dX12_grants_74 : decode cX12_grants 74 = .ok (.iaload, 1) := dX12_grants_74g.1
theorem dX12_grants_75 : decode cX12_grants 75 = .ok (.if_icmp .ne 9, 3) := dX12_grants_74g.2.1
theorem dX12_grants_78 : decode cX12_grants 78 = .ok (.iconst 1, 1) := dX12_grants_74g.2.2.1
theorem dX12_grants_79 : decode cX12_grants 79 = .ok (.iload_n 2, 1) := dX12_grants_74g.2.2.2.1
theorem dX12_grants_80 : decode cX12_grants 80 = .ok (.ishl, 1) := dX12_grants_74g.2.2.2.2.1
theorem dX12_grants_81 : decode cX12_grants 81 = .ok (.goto 4, 3) := dX12_grants_74g.2.2.2.2.2.1
theorem dX12_grants_84 : decode cX12_grants 84 = .ok (.iconst 0, 1) := dX12_grants_74g.2.2.2.2.2.2.1
theorem dX12_grants_85 : decode cX12_grants 85 = .ok (.ior, 1) := dX12_grants_74g.2.2.2.2.2.2.2.1
theorem dX12_grants_86 : decode cX12_grants 86 = .ok (.istore_n 1, 1) := dX12_grants_74g.2.2.2.2.2.2.2.2.1
theorem dX12_grants_87 : decode cX12_grants 87 = .ok (.iinc 2 1, 3) := dX12_grants_74g.2.2.2.2.2.2.2.2.2
theorem dX12_grants_90g : (decode cX12_grants 90 = .ok (.goto (-86), 3)) ∧ (decode cX12_grants 93 = .ok (.iload_n 1, 1)) ∧ (decode cX12_grants 94 = .ok (.ireturn, 1)) := by decide +kernel
theorem dX12_grants_90 : decode cX12_grants 90 = .ok (.goto (-86), 3) := dX12_grants_90g.1
theorem dX12_grants_93 : decode cX12_grants 93 = .ok (.iload_n 1, 1) := dX12_grants_90g.2.1
theorem dX12_grants_94 : decode cX12_grants 94 = .ok (.ireturn, 1) := dX12_grants_90g.2.2
set_option maxHeartbeats 4000000 in
set_option maxRecDepth 100000 in
theorem c_X12_grants (l : Launch) (E : Nat → Nat) (D : va_G) (G : th_G) (H0 : Heap) (h0 : Nat) (hG0 : G h0 = some (10, 0)) : Met l yX12_grants (tb (.code yX12_grants cX12_grants 3 (some .int))) (rm 1) (va_Pc [.ref h0] (PR E D G H0)) (QS H0 (fun r => True)) 0 0 (fun _ => False) := by
  refine Met.ofW (cc := cX12_grants) (maxL := 3) (ret := (some .int)) (by decide) rfl ?_
  intro p e s m args below meth c s₁ B hml hv
  obtain ⟨hav, rfl, hI, hN, hK⟩ := hv
  have hx := B.exec
  have hb := B.bytes
  have hr := B.returns
  have hts := atoms_spec (ws := tb (.code yX12_grants cX12_grants 3 (some .int))) B.pre
  have hown : s.vm.findClass RX12 = some m.cls := findClass_of_methodNamed B.named
  have hlocks := B.notSynchronized
  have hS : va_S (fun _ => False) s.heap s.heap [] := va_S.rf
  have hl := lv_entry ([.ref h0]) (n := 3) (Nat.le_of_ble_eq_true rfl)
  rw [show entryFrame m args 3 = entryFrame m ([.ref h0] : List Value).toArray 3 from by rw [hav], lg_entry_eq]
  generalize (lg_sl ([.ref h0]) ++ List.replicate (3 - (lg_sl ([.ref h0])).length) Slot.unset).toArray = ls at hl ⊢
  have hl : lv_has ls 3 [(0, .ref h0)] := hl
  generalize hR : (headSpec (tb (.code yX12_grants cX12_grants 3 (some .int))) (rm 1)).room = R
  have hR := hR.symm
  generalize hQ : MQ below (QS s.heap (fun r => True)) args s 0 0 (fun _ => False) = QF
  have hQ := hQ.symm
  obtain ⟨q_3, hq_3, hf_3⟩ := fr_of hI hG0 3 (by decide) (kd := (1, 5123)) rfl
  obtain ⟨F_3, hA_3, hP_3⟩ := om_1 hI hq_3 List.not_mem_nil
  have J_4 : ∀ (nn : Nat) (locs : List Loc) (ls : Array Slot) (v875 : Int32) (v876 : Int32) , (Int.toNat (6 - v875.toInt) = nn) → lv_has ls 3 [(2, .int v875), (1, .int v876), (0, .ref h0)] → ((0 : Int) ≤ v875.toInt ∧ v875.toInt ≤ 6) → ((0 : Int) ≤ v876.toInt ∧ v876.toInt ≤ 1023) → va_S (fun _ => False) s.heap s.heap locs → W p l e R s m args below meth c s.heap locs 0 0 QF (F0 m 4 ls []) := by
    intro nn
    induction nn using Nat.strongRecOn with
    | ind nn ih_4 =>
      intro locs ls v875 v876  hm hl k877 k878 hS
      refine lv_iload_n hx hb dX12_grants_4 rfl (lv_at hl 0 rfl) ?_
      refine lv_aload_n hx hb dX12_grants_5 rfl (lv_at hl 2 rfl) ?_
      refine gmA hx hb hts inT12 hown hK hI List.not_mem_nil hG0 3 (by decide) (hts _ (tb_c wd_1236)) rfl rfl dX12_grants_6 (fun a879 hq880 hf881 => ?_)
      obtain rfl := fr.uniq (by decide) hf_3 hf881
      refine lv_sipush (v := 314) hx hb dX12_grants_9 (by decide) ?_
      refine th_iald hx hb hK hA_3 0 rfl (iv_in (X := (314)) (by decide) (by omega) (by omega)) dX12_grants_12 (fun v882 e883 => ?_)
      have k884 := kg_m314 (kOk.get (i := 314) hP_3 e883 (X := (314)) (by decide) (by omega) (by omega)) (by omega) (by omega) (by omega)
      refine lv_icmp_ge (tgt := 93) hx hb dX12_grants_13 (by decide) (fun c885 => ?_) (fun c885 => ?_)
      · skip
        have k886 := iv_le (X := v882.toInt) (Y := v875.toInt) rfl rfl c885
        refine lv_iload_n hx hb dX12_grants_93 rfl (lv_at hl 1 rfl) ?_
        have hpost : True := trivial
        rw [hQ]
        exact W.iret (v := v876) hx hb hr (fun t ht hW => ⟨⟨v876, (), rfl, hpost, ht⟩, hS.F ht⟩) hS.2.2 dX12_grants_94
      · skip
        have k887 := iv_nle (X := v882.toInt) (Y := v875.toInt) rfl rfl c885
        refine lv_iload_n hx hb dX12_grants_16 rfl (lv_at hl 1 rfl) ?_
        refine lv_aload_n hx hb dX12_grants_17 rfl (lv_at hl 2 rfl) ?_
        refine lv_aload_n hx hb dX12_grants_18 rfl (lv_at hl 2 rfl) ?_
        refine gmA hx hb hts inT12 hown hK hI List.not_mem_nil hG0 3 (by decide) (hts _ (tb_c wd_1236)) rfl rfl dX12_grants_19 (fun a888 hq889 hf890 => ?_)
        obtain rfl := fr.uniq (by decide) hf_3 hf890
        refine lv_sipush (v := 282) hx hb dX12_grants_22 (by decide) ?_
        refine lv_iconst (v := 4) hx hb dX12_grants_25 (by decide) ?_
        refine lv_iload_n hx hb dX12_grants_26 rfl (lv_at hl 0 rfl) ?_
        refine lv_imul hx hb dX12_grants_27 ?_
        refine lv_topi (fun v891 e892 => ?_)
        have tv891 : v891.toInt = (4) * v875.toInt := iv_mul (by decide) rfl e892 (by omega) (by omega)
        refine lv_iadd hx hb dX12_grants_28 ?_
        refine lv_topi (fun v893 e894 => ?_)
        have tv893 : v893.toInt = (282) + v891.toInt := iv_add (by decide) rfl e894 (by omega) (by omega)
        refine th_iald hx hb hK hA_3 0 rfl (iv_in (X := v893.toInt) rfl (by omega) (by omega)) dX12_grants_29 (fun v895 e896 => ?_)
        have k897 := kg_wish0 (kOk.get (i := v893) hP_3 e896 (X := v893.toInt) rfl (by omega) (by omega)) (by omega) (by omega) (by omega)
        refine lv_aload_n hx hb dX12_grants_30 rfl (lv_at hl 2 rfl) ?_
        refine gmA hx hb hts inT12 hown hK hI List.not_mem_nil hG0 3 (by decide) (hts _ (tb_c wd_1236)) rfl rfl dX12_grants_31 (fun a898 hq899 hf900 => ?_)
        obtain rfl := fr.uniq (by decide) hf_3 hf900
        refine lv_sipush (v := 282) hx hb dX12_grants_34 (by decide) ?_
        refine lv_iconst (v := 4) hx hb dX12_grants_37 (by decide) ?_
        refine lv_iload_n hx hb dX12_grants_38 rfl (lv_at hl 0 rfl) ?_
        refine lv_imul hx hb dX12_grants_39 ?_
        refine lv_topi (fun v901 e902 => ?_)
        have tv901 : v901.toInt = (4) * v875.toInt := iv_mul (by decide) rfl e902 (by omega) (by omega)
        refine lv_iadd hx hb dX12_grants_40 ?_
        refine lv_topi (fun v903 e904 => ?_)
        have tv903 : v903.toInt = (282) + v901.toInt := iv_add (by decide) rfl e904 (by omega) (by omega)
        refine lv_iconst (v := 1) hx hb dX12_grants_41 (by decide) ?_
        refine lv_iadd hx hb dX12_grants_42 ?_
        refine lv_topi (fun v905 e906 => ?_)
        have tv905 : v905.toInt = v903.toInt + (1) := iv_add rfl (by decide) e906 (by omega) (by omega)
        refine th_iald hx hb hK hA_3 0 rfl (iv_in (X := v905.toInt) rfl (by omega) (by omega)) dX12_grants_43 (fun v907 e908 => ?_)
        have k909 := kg_wish1 (kOk.get (i := v905) hP_3 e908 (X := v905.toInt) rfl (by omega) (by omega)) (by omega) (by omega) (by omega)
        refine lv_aload_n hx hb dX12_grants_44 rfl (lv_at hl 2 rfl) ?_
        refine gmA hx hb hts inT12 hown hK hI List.not_mem_nil hG0 3 (by decide) (hts _ (tb_c wd_1236)) rfl rfl dX12_grants_45 (fun a910 hq911 hf912 => ?_)
        obtain rfl := fr.uniq (by decide) hf_3 hf912
        refine lv_sipush (v := 282) hx hb dX12_grants_48 (by decide) ?_
        refine lv_iconst (v := 4) hx hb dX12_grants_51 (by decide) ?_
        refine lv_iload_n hx hb dX12_grants_52 rfl (lv_at hl 0 rfl) ?_
        refine lv_imul hx hb dX12_grants_53 ?_
        refine lv_topi (fun v913 e914 => ?_)
        have tv913 : v913.toInt = (4) * v875.toInt := iv_mul (by decide) rfl e914 (by omega) (by omega)
        refine lv_iadd hx hb dX12_grants_54 ?_
        refine lv_topi (fun v915 e916 => ?_)
        have tv915 : v915.toInt = (282) + v913.toInt := iv_add (by decide) rfl e916 (by omega) (by omega)
        refine lv_iconst (v := 3) hx hb dX12_grants_55 (by decide) ?_
        refine lv_iadd hx hb dX12_grants_56 ?_
        refine lv_topi (fun v917 e918 => ?_)
        have tv917 : v917.toInt = v915.toInt + (3) := iv_add rfl (by decide) e918 (by omega) (by omega)
        refine th_iald hx hb hK hA_3 0 rfl (iv_in (X := v917.toInt) rfl (by omega) (by omega)) dX12_grants_57 (fun v919 e920 => ?_)
        have k921 := kg_wish3 (kOk.get (i := v917) hP_3 e920 (X := v917.toInt) rfl (by omega) (by omega)) (by omega) (by omega) (by omega)
        refine mr_i (As := [.int v895, .int v907, .int v919]) (rest := [.int v876]) (n := 3) (d := 0) ⟨hx, hb, hml, hown, hts⟩ (c_X12_floats l E D G s.heap h0 hG0 v895 v907 v919 ⟨by omega, by omega⟩ (by omega) (by omega)) wd_1658 wd_1660 wp_77 wd_13 wd_1661 (by decide +kernel) ⟨by rw [hR]; exact Nat.le_of_ble_eq_true rfl, by rw [hR]; exact Nat.le_of_ble_eq_true rfl⟩ hI hN hK hS hG0 rfl hl.1 rfl (Nat.le_of_ble_eq_true rfl) dX12_grants_58 ⟨Nat.zero_le _, Nat.zero_le _⟩ (fun r922 locs hp hS => ?_)
        have hp923 := hp
        refine lv_aload_n hx hb dX12_grants_61 rfl (lv_at hl 2 rfl) ?_
        refine gmA hx hb hts inT12 hown hK hI List.not_mem_nil hG0 3 (by decide) (hts _ (tb_c wd_1236)) rfl rfl dX12_grants_62 (fun a924 hq925 hf926 => ?_)
        obtain rfl := fr.uniq (by decide) hf_3 hf926
        refine lv_sipush (v := 282) hx hb dX12_grants_65 (by decide) ?_
        refine lv_iconst (v := 4) hx hb dX12_grants_68 (by decide) ?_
        refine lv_iload_n hx hb dX12_grants_69 rfl (lv_at hl 0 rfl) ?_
        refine lv_imul hx hb dX12_grants_70 ?_
        refine lv_topi (fun v927 e928 => ?_)
        have tv927 : v927.toInt = (4) * v875.toInt := iv_mul (by decide) rfl e928 (by omega) (by omega)
        refine lv_iadd hx hb dX12_grants_71 ?_
        refine lv_topi (fun v929 e930 => ?_)
        have tv929 : v929.toInt = (282) + v927.toInt := iv_add (by decide) rfl e930 (by omega) (by omega)
        refine lv_iconst (v := 2) hx hb dX12_grants_72 (by decide) ?_
        refine lv_iadd hx hb dX12_grants_73 ?_
        refine lv_topi (fun v931 e932 => ?_)
        have tv931 : v931.toInt = v929.toInt + (2) := iv_add rfl (by decide) e932 (by omega) (by omega)
        refine th_iald hx hb hK hA_3 0 rfl (iv_in (X := v931.toInt) rfl (by omega) (by omega)) dX12_grants_74 (fun v933 e934 => ?_)
        have k935 := iv_lo v933
        have k936 := iv_hi v933
        refine lv_icmp_ne (tgt := 84) hx hb dX12_grants_75 (by decide) (fun c937 => ?_) (fun c937 => ?_)
        · skip
          have k938 := iv_ne (X := r922.toInt) (Y := v933.toInt) rfl rfl c937
          refine lv_iconst (v := 0) hx hb dX12_grants_84 (by decide) ?_
          refine lv_ior hx hb dX12_grants_85 ?_
          refine lv_topi (fun v939 e940 => ?_)
          have tv939 := iv_or (X := v876.toInt) (Y := (0)) rfl (by decide) e940 (by omega) (by omega) (by omega) (by omega)
          refine lv_istore_n (lv' := [(1, .int v939), (2, .int v875), (0, .ref h0)]) hx hb dX12_grants_86 rfl hl (by decide) rfl (fun ls hl => ?_)
          obtain ⟨v941, e942⟩ : ∃ y : Int32, y = v875 + (1) := ⟨_, rfl⟩
          have tv941 : v941.toInt = v875.toInt + (1) := iv_add rfl (by decide) e942 (by omega) (by omega)
          refine lv_iinc (v := v941) (lv' := [(2, .int v941), (1, .int v939), (0, .ref h0)]) hx hb dX12_grants_87 hl (k := 1) rfl (by rw [e942]; rfl) (by decide) rfl (fun ls hl => ?_)
          refine lv_goto (tgt := 4) hx hb dX12_grants_90 (by decide) ?_
          exact ih_4 _ (by omega) locs ls v941 v939  rfl (lv_sub hl [0, 1, 2] rfl) ⟨by omega, by omega⟩ ⟨by omega, by omega⟩ hS
        · skip
          have k943 := iv_eq (X := r922.toInt) (Y := v933.toInt) rfl rfl c937
          refine lv_iconst (v := 1) hx hb dX12_grants_78 (by decide) ?_
          refine lv_iload_n hx hb dX12_grants_79 rfl (lv_at hl 0 rfl) ?_
          refine lv_ishl hx hb dX12_grants_80 ?_
          refine lv_topi (fun v944 e945 => ?_)
          have tv944 := iv_1sh (X := v875.toInt) rfl e945 (by omega) (by omega)
          refine lv_goto (tgt := 85) hx hb dX12_grants_81 (by decide) ?_
          refine lv_ior hx hb dX12_grants_85 ?_
          refine lv_topi (fun v946 e947 => ?_)
          have tv946 := iv_or (X := v876.toInt) (Y := v944.toInt) rfl rfl e947 (by omega) (by omega) (by omega) (by omega)
          refine lv_istore_n (lv' := [(1, .int v946), (2, .int v875), (0, .ref h0)]) hx hb dX12_grants_86 rfl hl (by decide) rfl (fun ls hl => ?_)
          obtain ⟨v948, e949⟩ : ∃ y : Int32, y = v875 + (1) := ⟨_, rfl⟩
          have tv948 : v948.toInt = v875.toInt + (1) := iv_add rfl (by decide) e949 (by omega) (by omega)
          refine lv_iinc (v := v948) (lv' := [(2, .int v948), (1, .int v946), (0, .ref h0)]) hx hb dX12_grants_87 hl (k := 1) rfl (by rw [e949]; rfl) (by decide) rfl (fun ls hl => ?_)
          refine lv_goto (tgt := 4) hx hb dX12_grants_90 (by decide) ?_
          exact ih_4 _ (by omega) locs ls v948 v946  rfl (lv_sub hl [0, 1, 2] rfl) ⟨by omega, by omega⟩ ⟨by omega, by omega⟩ hS
  refine lv_iconst (v := 0) hx hb dX12_grants_0 (by decide) ?_
  refine lv_istore_n (lv' := [(1, .int 0), (0, .ref h0)]) hx hb dX12_grants_1 rfl hl (by decide) rfl (fun ls hl => ?_)
  refine lv_iconst (v := 0) hx hb dX12_grants_2 (by decide) ?_
  refine lv_istore_n (lv' := [(2, .int 0), (1, .int 0), (0, .ref h0)]) hx hb dX12_grants_3 rfl hl (by decide) rfl (fun ls hl => ?_)
  have zl : (0 : Int32).toInt = 0 := by decide
  exact J_4 _ [] ls 0 0  rfl (lv_sub hl [0, 1, 2] rfl) ⟨by decide, by decide⟩ ⟨by decide, by decide⟩ hS
theorem dX12_granted_0g : (decode cX12_granted 0 = .ok (.aload_n 0, 1)) ∧ (decode cX12_granted 1 = .ok (.invokevirtual 138, 3)) ∧ (decode cX12_granted 4 = .ok (.aload_n 0, 1)) ∧ (decode cX12_granted 5 = .ok (.invokevirtual 373, 3)) ∧ (decode cX12_granted 8 = .ok (.ireturn, 1)) := by decide +kernel
theorem dX12_granted_0 : decode cX12_granted 0 = .ok (.aload_n 0, 1) := dX12_granted_0g.1
theorem dX12_granted_1 : decode cX12_granted 1 = .ok (.invokevirtual 138, 3) := dX12_granted_0g.2.1
theorem dX12_granted_4 : decode cX12_granted 4 = .ok (.aload_n 0, 1) := dX12_granted_0g.2.2.1
theorem dX12_granted_5 : decode cX12_granted 5 = .ok (.invokevirtual 373, 3) := dX12_granted_0g.2.2.2.1
theorem dX12_granted_8 : decode cX12_granted 8 = .ok (.ireturn, 1) := dX12_granted_0g.2.2.2.2
set_option maxHeartbeats 4000000 in
set_option maxRecDepth 100000 in
theorem c_X12_granted (l : Launch) (E : Nat → Nat) (D : va_G) (G : th_G) (h0 : Nat) (hG0 : G h0 = some (10, 0)) : Met l yX12_granted (tb (.code yX12_granted cX12_granted 1 (some .int))) (rm 69) (va_Pc [.ref h0] (PX E D G (fun H => True))) (QXi E D G (fun r H => True)) 0 0 (th_A G) := by
  refine Met.ofW (cc := cX12_granted) (maxL := 1) (ret := (some .int)) (by decide) rfl ?_
  intro p e s m args below meth c s₁ B hml hv
  obtain ⟨hav, ⟨hI, hN, hK⟩, hX⟩ := hv
  have hx := B.exec
  have hb := B.bytes
  have hr := B.returns
  have hts := atoms_spec (ws := tb (.code yX12_granted cX12_granted 1 (some .int))) B.pre
  have hown : s.vm.findClass RX12 = some m.cls := findClass_of_methodNamed B.named
  have hlocks := B.notSynchronized
  have hS : va_S (th_A G) s.heap s.heap [] := va_S.rf
  have hl := lv_entry ([.ref h0]) (n := 1) (Nat.le_of_ble_eq_true rfl)
  rw [show entryFrame m args 1 = entryFrame m ([.ref h0] : List Value).toArray 1 from by rw [hav], lg_entry_eq]
  generalize (lg_sl ([.ref h0]) ++ List.replicate (1 - (lg_sl ([.ref h0])).length) Slot.unset).toArray = ls at hl ⊢
  have hl : lv_has ls 1 [(0, .ref h0)] := hl
  generalize hR : (headSpec (tb (.code yX12_granted cX12_granted 1 (some .int))) (rm 69)).room = R
  have hR := hR.symm
  generalize hQ : MQ below (QXi E D G (fun r H => True)) args s 0 0 (th_A G) = QF
  have hQ := hQ.symm
  refine lv_aload_n hx hb dX12_granted_0 rfl (lv_at hl 0 rfl) ?_
  refine mx_v (As := []) (rest := []) (n := 0) (d := 68) ⟨hx, hb, hml, hown, hts⟩ (c_X12_looks l E D G h0 hG0 ) wd_1455 wd_1457 wp_43 wd_13 wd_1458 (by decide +kernel) ⟨by rw [hR]; exact Nat.le_of_ble_eq_true rfl, by rw [hR]; exact Nat.le_of_ble_eq_true rfl⟩ hI hN hK hS hG0 (trivial) rfl hl.1 rfl (Nat.le_of_ble_eq_true rfl) dX12_granted_1 ⟨Nat.zero_le _, Nat.zero_le _⟩ (fun H locs hI hp hS => ?_)
  refine lv_aload_n hx hb dX12_granted_4 rfl (lv_at hl 0 rfl) ?_
  refine mr_i (As := []) (rest := []) (n := 0) (d := 1) ⟨hx, hb, hml, hown, hts⟩ (c_X12_grants l E D G H h0 hG0 ) wd_1824 wd_1826 wp_91 wd_13 wd_1827 (by decide +kernel) ⟨by rw [hR]; exact Nat.le_of_ble_eq_true rfl, by rw [hR]; exact Nat.le_of_ble_eq_true rfl⟩ hI hN hK hS hG0 rfl hl.1 rfl (Nat.le_of_ble_eq_true rfl) dX12_granted_5 ⟨Nat.zero_le _, Nat.zero_le _⟩ (fun r2 locs hp hS => ?_)
  have hpost : True := trivial
  rw [hQ]
  exact W.iret (v := r2) hx hb hr (fun t ht hW => ⟨⟨r2, r2, rfl, rfl, ⟨by rw [ht]; exact hI, hN.warm hW, va_K.moved hW.alike hK⟩, by first | (rw [ht]; exact hpost) | exact hpost⟩, hS.F ht⟩) hS.2.2 dX12_granted_8
theorem dX12_laysFlows_0g : (decode cX12_laysFlows 0 = .ok (.iconst 0, 1)) ∧ (decode cX12_laysFlows 1 = .ok (.istore_n 1, 1)) ∧ (decode cX12_laysFlows 2 = .ok (.iload_n 1, 1)) ∧ (decode cX12_laysFlows 3 = .ok (.sipush 2304, 3)) ∧ (decode cX12_laysFlows 6 = .ok (.if_icmp .ge 48, 3)) ∧ (decode cX12_laysFlows 9 = .ok (.aload_n 0, 1)) ∧ (decode cX12_laysFlows 10 = .ok (.getfield 55, 3)) ∧ (decode cX12_laysFlows 13 = .ok (.iload_n 1, 1)) ∧ (decode cX12_laysFlows 14 = .ok (.aload_n 0, 1)) ∧ (decode cX12_laysFlows 15 = .ok (.iload_n 1, 1)) := by decide +kernel
theorem dX12_laysFlows_0 : decode cX12_laysFlows 0 = .ok (.iconst 0, 1) := dX12_laysFlows_0g.1
theorem dX12_laysFlows_1 : decode cX12_laysFlows 1 = .ok (.istore_n 1, 1) := dX12_laysFlows_0g.2.1
theorem dX12_laysFlows_2 : decode cX12_laysFlows 2 = .ok (.iload_n 1, 1) := dX12_laysFlows_0g.2.2.1
theorem dX12_laysFlows_3 : decode cX12_laysFlows 3 = .ok (.sipush 2304, 3) := dX12_laysFlows_0g.2.2.2.1
theorem dX12_laysFlows_6 : decode cX12_laysFlows 6 = .ok (.if_icmp .ge 48, 3) := dX12_laysFlows_0g.2.2.2.2.1
theorem dX12_laysFlows_9 : decode cX12_laysFlows 9 = .ok (.aload_n 0, 1) := dX12_laysFlows_0g.2.2.2.2.2.1
theorem dX12_laysFlows_10 : decode cX12_laysFlows 10 = .ok (.getfield 55, 3) := dX12_laysFlows_0g.2.2.2.2.2.2.1
theorem dX12_laysFlows_13 : decode cX12_laysFlows 13 = .ok (.iload_n 1, 1) := dX12_laysFlows_0g.2.2.2.2.2.2.2.1
theorem dX12_laysFlows_14 : decode cX12_laysFlows 14 = .ok (.aload_n 0, 1) := dX12_laysFlows_0g.2.2.2.2.2.2.2.2.1
theorem dX12_laysFlows_15 : decode cX12_laysFlows 15 = .ok (.iload_n 1, 1) := dX12_laysFlows_0g.2.2.2.2.2.2.2.2.2
theorem dX12_laysFlows_16g : (decode cX12_laysFlows 16 = .ok (.bipush 24, 2)) ∧ (decode cX12_laysFlows 18 = .ok (.irem, 1)) ∧ (decode cX12_laysFlows 19 = .ok (.iload_n 1, 1)) ∧ (decode cX12_laysFlows 20 = .ok (.bipush 24, 2)) ∧ (decode cX12_laysFlows 22 = .ok (.idiv, 1)) ∧ (decode cX12_laysFlows 23 = .ok (.aload_n 0, 1)) ∧ (decode cX12_laysFlows 24 = .ok (.getfield 20, 3)) ∧ (decode cX12_laysFlows 27 = .ok (.bipush 10, 2)) ∧ (decode cX12_laysFlows 29 = .ok (.iload_n 1, 1)) ∧ (decode cX12_laysFlows 30 = .ok (.bipush 24, 2)) := by decide +kernel
theorem dX12_laysFlows_16 : decode cX12_laysFlows 16 = .ok (.bipush 24, 2) := dX12_laysFlows_16g.1
theorem dX12_laysFlows_18 : decode cX12_laysFlows 18 = .ok (.irem, 1) := dX12_laysFlows_16g.2.1
theorem dX12_laysFlows_19 : decode cX12_laysFlows 19 = .ok (.iload_n 1, 1) := dX12_laysFlows_16g.2.2.1
theorem dX12_laysFlows_20 : decode cX12_laysFlows 20 = .ok (.bipush 24, 2) := dX12_laysFlows_16g.2.2.2.1
theorem dX12_laysFlows_22 : decode cX12_laysFlows 22 = .ok (.idiv, 1) := dX12_laysFlows_16g.2.2.2.2.1
theorem dX12_laysFlows_23 : decode cX12_laysFlows 23 = .ok (.aload_n 0, 1) := dX12_laysFlows_16g.2.2.2.2.2.1
theorem dX12_laysFlows_24 : decode cX12_laysFlows 24 = .ok (.getfield 20, 3) := dX12_laysFlows_16g.2.2.2.2.2.2.1
theorem dX12_laysFlows_27 : decode cX12_laysFlows 27 = .ok (.bipush 10, 2) := dX12_laysFlows_16g.2.2.2.2.2.2.2.1
theorem dX12_laysFlows_29 : decode cX12_laysFlows 29 = .ok (.iload_n 1, 1) := dX12_laysFlows_16g.2.2.2.2.2.2.2.2.1
theorem dX12_laysFlows_30 : decode cX12_laysFlows 30 = .ok (.bipush 24, 2) := dX12_laysFlows_16g.2.2.2.2.2.2.2.2.2
theorem dX12_laysFlows_32g : (decode cX12_laysFlows 32 = .ok (.idiv, 1)) ∧ (decode cX12_laysFlows 33 = .ok (.iadd, 1)) ∧ (decode cX12_laysFlows 34 = .ok (.iaload, 1)) ∧ (decode cX12_laysFlows 35 = .ok (.iconst 1, 1)) ∧ (decode cX12_laysFlows 36 = .ok (.if_icmp .ne 7, 3)) ∧ (decode cX12_laysFlows 39 = .ok (.iconst 1, 1)) ∧ (decode cX12_laysFlows 40 = .ok (.goto 4, 3)) ∧ (decode cX12_laysFlows 43 = .ok (.iconst 0, 1)) ∧ (decode cX12_laysFlows 44 = .ok (.invokevirtual 282, 3)) ∧ (decode cX12_laysFlows 47 = .ok (.iastore, 1)) := by decide +kernel
theorem dX12_laysFlows_32 : decode cX12_laysFlows 32 = .ok (.idiv, 1) := dX12_laysFlows_32g.1
theorem dX12_laysFlows_33 : decode cX12_laysFlows 33 = .ok (.iadd, 1) := dX12_laysFlows_32g.2.1
theorem dX12_laysFlows_34 : decode cX12_laysFlows 34 = .ok (.iaload, 1) := dX12_laysFlows_32g.2.2.1
theorem dX12_laysFlows_35 : decode cX12_laysFlows 35 = .ok (.iconst 1, 1) := dX12_laysFlows_32g.2.2.2.1
theorem dX12_laysFlows_36 : decode cX12_laysFlows 36 = .ok (.if_icmp .ne 7, 3) := dX12_laysFlows_32g.2.2.2.2.1
theorem dX12_laysFlows_39 : decode cX12_laysFlows 39 = .ok (.iconst 1, 1) := dX12_laysFlows_32g.2.2.2.2.2.1
theorem dX12_laysFlows_40 : decode cX12_laysFlows 40 = .ok (.goto 4, 3) := dX12_laysFlows_32g.2.2.2.2.2.2.1
theorem dX12_laysFlows_43 : decode cX12_laysFlows 43 = .ok (.iconst 0, 1) := dX12_laysFlows_32g.2.2.2.2.2.2.2.1
theorem dX12_laysFlows_44 : decode cX12_laysFlows 44 = .ok (.invokevirtual 282, 3) := dX12_laysFlows_32g.2.2.2.2.2.2.2.2.1
theorem dX12_laysFlows_47 : decode cX12_laysFlows 47 = .ok (.iastore, 1) := dX12_laysFlows_32g.2.2.2.2.2.2.2.2.2
theorem dX12_laysFlows_48g : (decode cX12_laysFlows 48 = .ok (.iinc 1 1, 3)) ∧ (decode cX12_laysFlows 51 = .ok (.goto (-49), 3)) ∧ (decode cX12_laysFlows 54 = .ok (.aload_n 0, 1)) ∧ (decode cX12_laysFlows 55 = .ok (.invokevirtual 285, 3)) ∧ (decode cX12_laysFlows 58 = .ok (.return_, 1)) := by decide +kernel
theorem dX12_laysFlows_48 : decode cX12_laysFlows 48 = .ok (.iinc 1 1, 3) := dX12_laysFlows_48g.1
theorem dX12_laysFlows_51 : decode cX12_laysFlows 51 = .ok (.goto (-49), 3) := dX12_laysFlows_48g.2.1
theorem dX12_laysFlows_54 : decode cX12_laysFlows 54 = .ok (.aload_n 0, 1) := dX12_laysFlows_48g.2.2.1
theorem dX12_laysFlows_55 : decode cX12_laysFlows 55 = .ok (.invokevirtual 285, 3) := dX12_laysFlows_48g.2.2.2.1
theorem dX12_laysFlows_58 : decode cX12_laysFlows 58 = .ok (.return_, 1) := dX12_laysFlows_48g.2.2.2.2
set_option maxHeartbeats 4000000 in
set_option maxRecDepth 100000 in
theorem c_X12_laysFlows (l : Launch) (E : Nat → Nat) (D : va_G) (G : th_G) (h0 : Nat) (hG0 : G h0 = some (10, 0)) : Met l yX12_laysFlows (tb (.code yX12_laysFlows cX12_laysFlows 2 none)) (rm 68) (va_Pc [.ref h0] (PX E D G (fun H => True))) (QXv E D G (fun H => True)) 0 0 (th_A G) := by
  refine Met.ofW (cc := cX12_laysFlows) (maxL := 2) (ret := none) (by decide) rfl ?_
  intro p e s m args below meth c s₁ B hml hv
  obtain ⟨hav, ⟨hI, hN, hK⟩, hX⟩ := hv
  have hx := B.exec
  have hb := B.bytes
  have hr := B.returns
  have hts := atoms_spec (ws := tb (.code yX12_laysFlows cX12_laysFlows 2 none)) B.pre
  have hown : s.vm.findClass RX12 = some m.cls := findClass_of_methodNamed B.named
  have hlocks := B.notSynchronized
  have hS : va_S (th_A G) s.heap s.heap [] := va_S.rf
  have hl := lv_entry ([.ref h0]) (n := 2) (Nat.le_of_ble_eq_true rfl)
  rw [show entryFrame m args 2 = entryFrame m ([.ref h0] : List Value).toArray 2 from by rw [hav], lg_entry_eq]
  generalize (lg_sl ([.ref h0]) ++ List.replicate (2 - (lg_sl ([.ref h0])).length) Slot.unset).toArray = ls at hl ⊢
  have hl : lv_has ls 2 [(0, .ref h0)] := hl
  generalize hR : (headSpec (tb (.code yX12_laysFlows cX12_laysFlows 2 none)) (rm 68)).room = R
  have hR := hR.symm
  generalize hQ : MQ below (QXv E D G (fun H => True)) args s 0 0 (th_A G) = QF
  have hQ := hQ.symm
  have J_2 : ∀ (nn : Nat) (H : Heap) (locs : List Loc) (ls : Array Slot) (v1309 : Int32) , (Int.toNat (2304 - v1309.toInt) = nn) → lv_has ls 2 [(1, .int v1309), (0, .ref h0)] → ((0 : Int) ≤ v1309.toInt ∧ v1309.toInt ≤ 2304) → th_I (okM E) D G [] H → va_S (th_A G) s.heap H locs → W p l e R s m args below meth c H locs 0 0 QF (F0 m 2 ls []) := by
    intro nn
    induction nn using Nat.strongRecOn with
    | ind nn ih_2 =>
      intro H locs ls v1309  hm hl k1310 hI hS
      refine lv_iload_n hx hb dX12_laysFlows_2 rfl (lv_at hl 0 rfl) ?_
      refine lv_sipush (v := 2304) hx hb dX12_laysFlows_3 (by decide) ?_
      refine lv_icmp_ge (tgt := 54) hx hb dX12_laysFlows_6 (by decide) (fun c1311 => ?_) (fun c1311 => ?_)
      · skip
        have k1312 := iv_le (X := (2304)) (Y := v1309.toInt) (by decide) rfl c1311
        refine lv_aload_n hx hb dX12_laysFlows_54 rfl (lv_at hl 1 rfl) ?_
        refine mx_v (As := []) (rest := []) (n := 0) (d := 3) ⟨hx, hb, hml, hown, hts⟩ (c_X12_laysNext l E D G h0 hG0 ) wd_1527 wd_1529 wp_59 wd_13 wd_1530 (by decide +kernel) ⟨by rw [hR]; exact Nat.le_of_ble_eq_true rfl, by rw [hR]; exact Nat.le_of_ble_eq_true rfl⟩ hI hN hK hS hG0 (trivial) rfl hl.1 rfl (Nat.le_of_ble_eq_true rfl) dX12_laysFlows_55 ⟨Nat.zero_le _, Nat.zero_le _⟩ (fun H locs hI hp hS => ?_)
        have hpost : True := trivial
        rw [hQ]
        exact W.vret hx hb hr (fun t ht hW => ⟨⟨(), rfl, trivial, ⟨by rw [ht]; exact hI, hN.warm hW, va_K.moved hW.alike hK⟩, by first | (rw [ht]; exact hpost) | exact hpost⟩, hS.F ht⟩) hS.2.2 dX12_laysFlows_58
      · skip
        have k1314 := iv_nle (X := (2304)) (Y := v1309.toInt) (by decide) rfl c1311
        refine lv_aload_n hx hb dX12_laysFlows_9 rfl (lv_at hl 1 rfl) ?_
        refine gmA hx hb hts inT12 hown hK hI List.not_mem_nil hG0 23 (by decide) (hts _ (tb_c wd_1256)) rfl rfl dX12_laysFlows_10 (fun a1315 hq1316 hf1317 => ?_)
        refine lv_iload_n hx hb dX12_laysFlows_13 rfl (lv_at hl 0 rfl) ?_
        refine lv_aload_n hx hb dX12_laysFlows_14 rfl (lv_at hl 1 rfl) ?_
        refine lv_iload_n hx hb dX12_laysFlows_15 rfl (lv_at hl 0 rfl) ?_
        refine lv_bipush (v := 24) hx hb dX12_laysFlows_16 (by decide) ?_
        refine lv_irem hx hb dX12_laysFlows_18 (by decide) ?_
        refine lv_topi (fun v1318 e1319 => ?_)
        have tv1318 := iv_remp (X := v1309.toInt) (Y := 24) rfl (by decide) e1319 (by decide) (by omega)
        refine lv_iload_n hx hb dX12_laysFlows_19 rfl (lv_at hl 0 rfl) ?_
        refine lv_bipush (v := 24) hx hb dX12_laysFlows_20 (by decide) ?_
        refine lv_idiv hx hb dX12_laysFlows_22 (by decide) ?_
        refine lv_topi (fun v1320 e1321 => ?_)
        have tv1320 := iv_divp (X := v1309.toInt) (Y := 24) rfl (by decide) e1321 (by decide) (by omega)
        refine lv_aload_n hx hb dX12_laysFlows_23 rfl (lv_at hl 1 rfl) ?_
        refine gmA hx hb hts inT12 hown hK hI List.not_mem_nil hG0 3 (by decide) (hts _ (tb_c wd_1236)) rfl rfl dX12_laysFlows_24 (fun a1322 hq1323 hf1324 => ?_)
        refine lv_bipush (v := 10) hx hb dX12_laysFlows_27 (by decide) ?_
        refine lv_iload_n hx hb dX12_laysFlows_29 rfl (lv_at hl 0 rfl) ?_
        refine lv_bipush (v := 24) hx hb dX12_laysFlows_30 (by decide) ?_
        refine lv_idiv hx hb dX12_laysFlows_32 (by decide) ?_
        refine lv_topi (fun v1325 e1326 => ?_)
        have tv1325 := iv_divp (X := v1309.toInt) (Y := 24) rfl (by decide) e1326 (by decide) (by omega)
        refine lv_iadd hx hb dX12_laysFlows_33 ?_
        refine lv_topi (fun v1327 e1328 => ?_)
        have tv1327 : v1327.toInt = (10) + v1325.toInt := iv_add (by decide) rfl e1328 (by omega) (by omega)
        obtain ⟨F1329, hA1330, hP1331⟩ := om_1 hI hq1323 List.not_mem_nil
        refine th_iald hx hb hK hA1330 0 rfl (iv_in (X := v1327.toInt) rfl (by omega) (by omega)) dX12_laysFlows_34 (fun v1332 e1333 => ?_)
        refine lv_iconst (v := 1) hx hb dX12_laysFlows_35 (by decide) ?_
        have k1334 := iv_lo v1332
        have k1335 := iv_hi v1332
        refine lv_icmp_ne (tgt := 43) hx hb dX12_laysFlows_36 (by decide) (fun c1336 => ?_) (fun c1336 => ?_)
        · skip
          have k1337 := iv_ne (X := v1332.toInt) (Y := (1)) rfl (by decide) c1336
          refine lv_iconst (v := 0) hx hb dX12_laysFlows_43 (by decide) ?_
          refine mx_i (As := [.int v1318, .int v1320, .int 0]) (rest := [.int v1309, .ref a1315]) (n := 3) (d := 67) ⟨hx, hb, hml, hown, hts⟩ (c_X12_flowOf l E D G h0 hG0 v1318 v1320 0 ⟨by decide, by decide⟩) wd_1459 wd_1461 wp_44 wd_13 wd_1462 (by decide +kernel) ⟨by rw [hR]; exact Nat.le_of_ble_eq_true rfl, by rw [hR]; exact Nat.le_of_ble_eq_true rfl⟩ hI hN hK hS hG0 (trivial) rfl hl.1 rfl (Nat.le_of_ble_eq_true rfl) dX12_laysFlows_44 ⟨Nat.zero_le _, Nat.zero_le _⟩ (fun r1338 H locs hI hp hS => ?_)
          obtain ⟨F1339, hA1340⟩ := om_0 hI hq1316 List.not_mem_nil
          refine th_iast hx hb hK hA1340 0 rfl hS ⟨_, hq1316⟩ (iv_in (X := v1309.toInt) rfl (by omega) (by omega)) dX12_laysFlows_47 (fun H locs hA1341 oq hS => ?_)
          have hI := th_I.put hI hq1316 hA1341 ok_m0 oq
          have e1342 : r1338 = (upd F1339 (v1309 : Int32).toNatClampNeg r1338) (v1309 : Int32).toNatClampNeg := rd_us
          obtain ⟨v1343, e1344⟩ : ∃ y : Int32, y = v1309 + (1) := ⟨_, rfl⟩
          have tv1343 : v1343.toInt = v1309.toInt + (1) := iv_add rfl (by decide) e1344 (by omega) (by omega)
          refine lv_iinc (v := v1343) (lv' := [(1, .int v1343), (0, .ref h0)]) hx hb dX12_laysFlows_48 hl (k := 0) rfl (by rw [e1344]; rfl) (by decide) rfl (fun ls hl => ?_)
          refine lv_goto (tgt := 2) hx hb dX12_laysFlows_51 (by decide) ?_
          exact ih_2 _ (by omega) H locs ls v1343  rfl (lv_sub hl [0, 1] rfl) ⟨by omega, by omega⟩ hI hS
        · skip
          have k1345 := iv_eq (X := v1332.toInt) (Y := (1)) rfl (by decide) c1336
          refine lv_iconst (v := 1) hx hb dX12_laysFlows_39 (by decide) ?_
          refine lv_goto (tgt := 44) hx hb dX12_laysFlows_40 (by decide) ?_
          refine mx_i (As := [.int v1318, .int v1320, .int 1]) (rest := [.int v1309, .ref a1315]) (n := 3) (d := 67) ⟨hx, hb, hml, hown, hts⟩ (c_X12_flowOf l E D G h0 hG0 v1318 v1320 1 ⟨by decide, by decide⟩) wd_1459 wd_1461 wp_44 wd_13 wd_1462 (by decide +kernel) ⟨by rw [hR]; exact Nat.le_of_ble_eq_true rfl, by rw [hR]; exact Nat.le_of_ble_eq_true rfl⟩ hI hN hK hS hG0 (trivial) rfl hl.1 rfl (Nat.le_of_ble_eq_true rfl) dX12_laysFlows_44 ⟨Nat.zero_le _, Nat.zero_le _⟩ (fun r1346 H locs hI hp hS => ?_)
          obtain ⟨F1347, hA1348⟩ := om_0 hI hq1316 List.not_mem_nil
          refine th_iast hx hb hK hA1348 0 rfl hS ⟨_, hq1316⟩ (iv_in (X := v1309.toInt) rfl (by omega) (by omega)) dX12_laysFlows_47 (fun H locs hA1349 oq hS => ?_)
          have hI := th_I.put hI hq1316 hA1349 ok_m0 oq
          have e1350 : r1346 = (upd F1347 (v1309 : Int32).toNatClampNeg r1346) (v1309 : Int32).toNatClampNeg := rd_us
          obtain ⟨v1351, e1352⟩ : ∃ y : Int32, y = v1309 + (1) := ⟨_, rfl⟩
          have tv1351 : v1351.toInt = v1309.toInt + (1) := iv_add rfl (by decide) e1352 (by omega) (by omega)
          refine lv_iinc (v := v1351) (lv' := [(1, .int v1351), (0, .ref h0)]) hx hb dX12_laysFlows_48 hl (k := 0) rfl (by rw [e1352]; rfl) (by decide) rfl (fun ls hl => ?_)
          refine lv_goto (tgt := 2) hx hb dX12_laysFlows_51 (by decide) ?_
          exact ih_2 _ (by omega) H locs ls v1351  rfl (lv_sub hl [0, 1] rfl) ⟨by omega, by omega⟩ hI hS
  refine lv_iconst (v := 0) hx hb dX12_laysFlows_0 (by decide) ?_
  refine lv_istore_n (lv' := [(1, .int 0), (0, .ref h0)]) hx hb dX12_laysFlows_1 rfl hl (by decide) rfl (fun ls hl => ?_)
  have zl : (0 : Int32).toInt = 0 := by decide
  exact J_2 _ s.heap [] ls 0  rfl (lv_sub hl [0, 1] rfl) ⟨by decide, by decide⟩ hI hS
theorem dX12_findsBest_0g : (decode cX12_findsBest 0 = .ok (.aload_n 0, 1)) ∧ (decode cX12_findsBest 1 = .ok (.getfield 97, 3)) ∧ (decode cX12_findsBest 4 = .ok (.aload_n 0, 1)) ∧ (decode cX12_findsBest 5 = .ok (.getfield 11, 3)) ∧ (decode cX12_findsBest 8 = .ok (.if_icmp .ne 12, 3)) ∧ (decode cX12_findsBest 11 = .ok (.aload_n 0, 1)) ∧ (decode cX12_findsBest 12 = .ok (.getfield 377, 3)) ∧ (decode cX12_findsBest 15 = .ok (.iload_n 1, 1)) ∧ (decode cX12_findsBest 16 = .ok (.if_icmp .ne 4, 3)) ∧ (decode cX12_findsBest 19 = .ok (.return_, 1)) := by decide +kernel
theorem dX12_findsBest_0 : decode cX12_findsBest 0 = .ok (.aload_n 0, 1) := dX12_findsBest_0g.1
theorem dX12_findsBest_1 : decode cX12_findsBest 1 = .ok (.getfield 97, 3) := dX12_findsBest_0g.2.1
theorem dX12_findsBest_4 : decode cX12_findsBest 4 = .ok (.aload_n 0, 1) := dX12_findsBest_0g.2.2.1
theorem dX12_findsBest_5 : decode cX12_findsBest 5 = .ok (.getfield 11, 3) := dX12_findsBest_0g.2.2.2.1
theorem dX12_findsBest_8 : decode cX12_findsBest 8 = .ok (.if_icmp .ne 12, 3) := dX12_findsBest_0g.2.2.2.2.1
theorem dX12_findsBest_11 : decode cX12_findsBest 11 = .ok (.aload_n 0, 1) := dX12_findsBest_0g.2.2.2.2.2.1
theorem dX12_findsBest_12 : decode cX12_findsBest 12 = .ok (.getfield 377, 3) := dX12_findsBest_0g.2.2.2.2.2.2.1
theorem dX12_findsBest_15 : decode cX12_findsBest 15 = .ok (.iload_n 1, 1) := dX12_findsBest_0g.2.2.2.2.2.2.2.1
theorem dX12_findsBest_16 : decode cX12_findsBest 16 = .ok (.if_icmp .ne 4, 3) := dX12_findsBest_0g.2.2.2.2.2.2.2.2.1
theorem dX12_findsBest_19 : decode cX12_findsBest 19 = .ok (.return_, 1) := dX12_findsBest_0g.2.2.2.2.2.2.2.2.2
theorem dX12_findsBest_20g : (decode cX12_findsBest 20 = .ok (.aload_n 0, 1)) ∧ (decode cX12_findsBest 21 = .ok (.invokevirtual 138, 3)) ∧ (decode cX12_findsBest 24 = .ok (.aload_n 0, 1)) ∧ (decode cX12_findsBest 25 = .ok (.aload_n 0, 1)) ∧ (decode cX12_findsBest 26 = .ok (.getfield 11, 3)) ∧ (decode cX12_findsBest 29 = .ok (.putfield 97, 3)) ∧ (decode cX12_findsBest 32 = .ok (.aload_n 0, 1)) ∧ (decode cX12_findsBest 33 = .ok (.iload_n 1, 1)) ∧ (decode cX12_findsBest 34 = .ok (.putfield 377, 3)) ∧ (decode cX12_findsBest 37 = .ok (.aload_n 0, 1)) := by decide +kernel
theorem dX12_findsBest_20 : decode cX12_findsBest 20 = .ok (.aload_n 0, 1) := dX12_findsBest_20g.1
theorem dX12_findsBest_21 : decode cX12_findsBest 21 = .ok (.invokevirtual 138, 3) := dX12_findsBest_20g.2.1
theorem dX12_findsBest_24 : decode cX12_findsBest 24 = .ok (.aload_n 0, 1) := dX12_findsBest_20g.2.2.1
theorem dX12_findsBest_25 : decode cX12_findsBest 25 = .ok (.aload_n 0, 1) := dX12_findsBest_20g.2.2.2.1
theorem dX12_findsBest_26 : decode cX12_findsBest 26 = .ok (.getfield 11, 3) := dX12_findsBest_20g.2.2.2.2.1
theorem dX12_findsBest_29 : decode cX12_findsBest 29 = .ok (.putfield 97, 3) := dX12_findsBest_20g.2.2.2.2.2.1
theorem dX12_findsBest_32 : decode cX12_findsBest 32 = .ok (.aload_n 0, 1) := dX12_findsBest_20g.2.2.2.2.2.2.1
theorem dX12_findsBest_33 : decode cX12_findsBest 33 = .ok (.iload_n 1, 1) := dX12_findsBest_20g.2.2.2.2.2.2.2.1
theorem dX12_findsBest_34 : decode cX12_findsBest 34 = .ok (.putfield 377, 3) := dX12_findsBest_20g.2.2.2.2.2.2.2.2.1
theorem dX12_findsBest_37 : decode cX12_findsBest 37 = .ok (.aload_n 0, 1) := dX12_findsBest_20g.2.2.2.2.2.2.2.2.2
theorem dX12_findsBest_38g : (decode cX12_findsBest 38 = .ok (.getfield 20, 3)) ∧ (decode cX12_findsBest 41 = .ok (.iconst 0, 1)) ∧ (decode cX12_findsBest 42 = .ok (.iconst 5, 1)) ∧ (decode cX12_findsBest 43 = .ok (.iload_n 1, 1)) ∧ (decode cX12_findsBest 44 = .ok (.imul, 1)) ∧ (decode cX12_findsBest 45 = .ok (.iadd, 1)) ∧ (decode cX12_findsBest 46 = .ok (.iconst 2, 1)) ∧ (decode cX12_findsBest 47 = .ok (.iadd, 1)) ∧ (decode cX12_findsBest 48 = .ok (.iaload, 1)) ∧ (decode cX12_findsBest 49 = .ok (.istore_n 2, 1)) := by decide +kernel
theorem dX12_findsBest_38 : decode cX12_findsBest 38 = .ok (.getfield 20, 3) := dX12_findsBest_38g.1
theorem dX12_findsBest_41 : decode cX12_findsBest 41 = .ok (.iconst 0, 1) := dX12_findsBest_38g.2.1
theorem dX12_findsBest_42 : decode cX12_findsBest 42 = .ok (.iconst 5, 1) := dX12_findsBest_38g.2.2.1
theorem dX12_findsBest_43 : decode cX12_findsBest 43 = .ok (.iload_n 1, 1) := dX12_findsBest_38g.2.2.2.1
theorem dX12_findsBest_44 : decode cX12_findsBest 44 = .ok (.imul, 1) := dX12_findsBest_38g.2.2.2.2.1
theorem dX12_findsBest_45 : decode cX12_findsBest 45 = .ok (.iadd, 1) := dX12_findsBest_38g.2.2.2.2.2.1
theorem dX12_findsBest_46 : decode cX12_findsBest 46 = .ok (.iconst 2, 1) := dX12_findsBest_38g.2.2.2.2.2.2.1
theorem dX12_findsBest_47 : decode cX12_findsBest 47 = .ok (.iadd, 1) := dX12_findsBest_38g.2.2.2.2.2.2.2.1
theorem dX12_findsBest_48 : decode cX12_findsBest 48 = .ok (.iaload, 1) := dX12_findsBest_38g.2.2.2.2.2.2.2.2.1
theorem dX12_findsBest_49 : decode cX12_findsBest 49 = .ok (.istore_n 2, 1) := dX12_findsBest_38g.2.2.2.2.2.2.2.2.2
theorem dX12_findsBest_50g : (decode cX12_findsBest 50 = .ok (.aload_n 0, 1)) ∧ (decode cX12_findsBest 51 = .ok (.getfield 20, 3)) ∧ (decode cX12_findsBest 54 = .ok (.iconst 0, 1)) ∧ (decode cX12_findsBest 55 = .ok (.iconst 5, 1)) ∧ (decode cX12_findsBest 56 = .ok (.iload_n 1, 1)) ∧ (decode cX12_findsBest 57 = .ok (.imul, 1)) ∧ (decode cX12_findsBest 58 = .ok (.iadd, 1)) ∧ (decode cX12_findsBest 59 = .ok (.iconst 3, 1)) ∧ (decode cX12_findsBest 60 = .ok (.iadd, 1)) ∧ (decode cX12_findsBest 61 = .ok (.iaload, 1)) := by decide +kernel
theorem dX12_findsBest_50 : decode cX12_findsBest 50 = .ok (.aload_n 0, 1) := dX12_findsBest_50g.1
theorem dX12_findsBest_51 : decode cX12_findsBest 51 = .ok (.getfield 20, 3) := dX12_findsBest_50g.2.1
theorem dX12_findsBest_54 : decode cX12_findsBest 54 = .ok (.iconst 0, 1) := dX12_findsBest_50g.2.2.1
theorem dX12_findsBest_55 : decode cX12_findsBest 55 = .ok (.iconst 5, 1) := dX12_findsBest_50g.2.2.2.1
theorem dX12_findsBest_56 : decode cX12_findsBest 56 = .ok (.iload_n 1, 1) := dX12_findsBest_50g.2.2.2.2.1
theorem dX12_findsBest_57 : decode cX12_findsBest 57 = .ok (.imul, 1) := dX12_findsBest_50g.2.2.2.2.2.1
theorem dX12_findsBest_58 : decode cX12_findsBest 58 = .ok (.iadd, 1) := dX12_findsBest_50g.2.2.2.2.2.2.1
theorem dX12_findsBest_59 : decode cX12_findsBest 59 = .ok (.iconst 3, 1) := dX12_findsBest_50g.2.2.2.2.2.2.2.1
theorem dX12_findsBest_60 : decode cX12_findsBest 60 = .ok (.iadd, 1) := dX12_findsBest_50g.2.2.2.2.2.2.2.2.1
theorem dX12_findsBest_61 : decode cX12_findsBest 61 = .ok (.iaload, 1) := dX12_findsBest_50g.2.2.2.2.2.2.2.2.2
theorem dX12_findsBest_62g : (decode cX12_findsBest 62 = .ok (.istore_n 3, 1)) ∧ (decode cX12_findsBest 63 = .ok (.aload_n 0, 1)) ∧ (decode cX12_findsBest 64 = .ok (.iconst (-1), 1)) ∧ (decode cX12_findsBest 65 = .ok (.putfield 380, 3)) ∧ (decode cX12_findsBest 68 = .ok (.iconst 1, 1)) ∧ (decode cX12_findsBest 69 = .ok (.istore 4, 2)) ∧ (decode cX12_findsBest 71 = .ok (.iload 4, 2)) ∧ (decode cX12_findsBest 73 = .ok (.bipush 6, 2)) ∧ (decode cX12_findsBest 75 = .ok (.if_icmp .gt 102, 3)) ∧ (decode cX12_findsBest 78 = .ok (.iconst 0, 1)) := by decide +kernel
theorem dX12_findsBest_62 : decode cX12_findsBest 62 = .ok (.istore_n 3, 1) := dX12_findsBest_62g.1
theorem dX12_findsBest_63 : decode cX12_findsBest 63 = .ok (.aload_n 0, 1) := dX12_findsBest_62g.2.1
theorem dX12_findsBest_64 : decode cX12_findsBest 64 = .ok (.iconst (-1), 1) := dX12_findsBest_62g.2.2.1
theorem dX12_findsBest_65 : decode cX12_findsBest 65 = .ok (.putfield 380, 3) := dX12_findsBest_62g.2.2.2.1
theorem dX12_findsBest_68 : decode cX12_findsBest 68 = .ok (.iconst 1, 1) := dX12_findsBest_62g.2.2.2.2.1
theorem dX12_findsBest_69 : decode cX12_findsBest 69 = .ok (.istore 4, 2) := dX12_findsBest_62g.2.2.2.2.2.1
theorem dX12_findsBest_71 : decode cX12_findsBest 71 = .ok (.iload 4, 2) := dX12_findsBest_62g.2.2.2.2.2.2.1
theorem dX12_findsBest_73 : decode cX12_findsBest 73 = .ok (.bipush 6, 2) := dX12_findsBest_62g.2.2.2.2.2.2.2.1
theorem dX12_findsBest_75 : decode cX12_findsBest 75 = .ok (.if_icmp .gt 102, 3) := dX12_findsBest_62g.2.2.2.2.2.2.2.2.1
theorem dX12_findsBest_78 : decode cX12_findsBest 78 = .ok (.iconst 0, 1) := dX12_findsBest_62g.2.2.2.2.2.2.2.2.2
theorem dX12_findsBest_79g : (decode cX12_findsBest 79 = .ok (.istore 5, 2)) ∧ (decode cX12_findsBest 81 = .ok (.iload 5, 2)) ∧ (decode cX12_findsBest 83 = .ok (.bipush 24, 2)) ∧ (decode cX12_findsBest 85 = .ok (.if_icmp .ge 86, 3)) ∧ (decode cX12_findsBest 88 = .ok (.aload_n 0, 1)) ∧ (decode cX12_findsBest 89 = .ok (.getfield 20, 3)) ∧ (decode cX12_findsBest 92 = .ok (.iconst 0, 1)) ∧ (decode cX12_findsBest 93 = .ok (.iconst 5, 1)) ∧ (decode cX12_findsBest 94 = .ok (.iload_n 1, 1)) ∧ (decode cX12_findsBest 95 = .ok (.imul, 1)) := by decide +kernel
theorem dX12_findsBest_79 : decode cX12_findsBest 79 = .ok (.istore 5, 2) := dX12_findsBest_79g.1
theorem dX12_findsBest_81 : decode cX12_findsBest 81 = .ok (.iload 5, 2) := dX12_findsBest_79g.2.1
theorem dX12_findsBest_83 : decode cX12_findsBest 83 = .ok (.bipush 24, 2) := dX12_findsBest_79g.2.2.1
theorem dX12_findsBest_85 : decode cX12_findsBest 85 = .ok (.if_icmp .ge 86, 3) := dX12_findsBest_79g.2.2.2.1
theorem dX12_findsBest_88 : decode cX12_findsBest 88 = .ok (.aload_n 0, 1) := dX12_findsBest_79g.2.2.2.2.1
theorem dX12_findsBest_89 : decode cX12_findsBest 89 = .ok (.getfield 20, 3) := dX12_findsBest_79g.2.2.2.2.2.1
theorem dX12_findsBest_92 : decode cX12_findsBest 92 = .ok (.iconst 0, 1) := dX12_findsBest_79g.2.2.2.2.2.2.1
theorem dX12_findsBest_93 : decode cX12_findsBest 93 = .ok (.iconst 5, 1) := dX12_findsBest_79g.2.2.2.2.2.2.2.1
theorem dX12_findsBest_94 : decode cX12_findsBest 94 = .ok (.iload_n 1, 1) := dX12_findsBest_79g.2.2.2.2.2.2.2.2.1
theorem dX12_findsBest_95 : decode cX12_findsBest 95 = .ok (.imul, 1) := dX12_findsBest_79g.2.2.2.2.2.2.2.2.2
theorem dX12_findsBest_96g : (decode cX12_findsBest 96 = .ok (.iadd, 1)) ∧ (decode cX12_findsBest 97 = .ok (.iconst 2, 1)) ∧ (decode cX12_findsBest 98 = .ok (.iadd, 1)) ∧ (decode cX12_findsBest 99 = .ok (.iload 5, 2)) ∧ (decode cX12_findsBest 101 = .ok (.iastore, 1)) ∧ (decode cX12_findsBest 102 = .ok (.aload_n 0, 1)) ∧ (decode cX12_findsBest 103 = .ok (.getfield 20, 3)) ∧ (decode cX12_findsBest 106 = .ok (.iconst 0, 1)) ∧ (decode cX12_findsBest 107 = .ok (.iconst 5, 1)) ∧ (decode cX12_findsBest 108 = .ok (.iload_n 1, 1)) := by decide +kernel
theorem dX12_findsBest_96 : decode cX12_findsBest 96 = .ok (.iadd, 1) := dX12_findsBest_96g.1
theorem dX12_findsBest_97 : decode cX12_findsBest 97 = .ok (.iconst 2, 1) := dX12_findsBest_96g.2.1
theorem dX12_findsBest_98 : decode cX12_findsBest 98 = .ok (.iadd, 1) := dX12_findsBest_96g.2.2.1
theorem dX12_findsBest_99 : decode cX12_findsBest 99 = .ok (.iload 5, 2) := dX12_findsBest_96g.2.2.2.1
theorem dX12_findsBest_101 : decode cX12_findsBest 101 = .ok (.iastore, 1) := dX12_findsBest_96g.2.2.2.2.1
theorem dX12_findsBest_102 : decode cX12_findsBest 102 = .ok (.aload_n 0, 1) := dX12_findsBest_96g.2.2.2.2.2.1
theorem dX12_findsBest_103 : decode cX12_findsBest 103 = .ok (.getfield 20, 3) := dX12_findsBest_96g.2.2.2.2.2.2.1
theorem dX12_findsBest_106 : decode cX12_findsBest 106 = .ok (.iconst 0, 1) := dX12_findsBest_96g.2.2.2.2.2.2.2.1
theorem dX12_findsBest_107 : decode cX12_findsBest 107 = .ok (.iconst 5, 1) := dX12_findsBest_96g.2.2.2.2.2.2.2.2.1
theorem dX12_findsBest_108 : decode cX12_findsBest 108 = .ok (.iload_n 1, 1) := dX12_findsBest_96g.2.2.2.2.2.2.2.2.2
theorem dX12_findsBest_109g : (decode cX12_findsBest 109 = .ok (.imul, 1)) ∧ (decode cX12_findsBest 110 = .ok (.iadd, 1)) ∧ (decode cX12_findsBest 111 = .ok (.iconst 3, 1)) ∧ (decode cX12_findsBest 112 = .ok (.iadd, 1)) ∧ (decode cX12_findsBest 113 = .ok (.iload 5, 2)) ∧ (decode cX12_findsBest 115 = .ok (.iload 4, 2)) ∧ (decode cX12_findsBest 117 = .ok (.iadd, 1)) ∧ (decode cX12_findsBest 118 = .ok (.bipush 24, 2)) ∧ (decode cX12_findsBest 120 = .ok (.irem, 1)) ∧ (decode cX12_findsBest 121 = .ok (.iastore, 1)) := by decide +kernel
theorem dX12_findsBest_109 : decode cX12_findsBest 109 = .ok (.imul, 1) := dX12_findsBest_109g.1
theorem dX12_findsBest_110 : decode cX12_findsBest 110 = .ok (.iadd, 1) := dX12_findsBest_109g.2.1
theorem dX12_findsBest_111 : decode cX12_findsBest 111 = .ok (.iconst 3, 1) := dX12_findsBest_109g.2.2.1
theorem dX12_findsBest_112 : decode cX12_findsBest 112 = .ok (.iadd, 1) := dX12_findsBest_109g.2.2.2.1
theorem dX12_findsBest_113 : decode cX12_findsBest 113 = .ok (.iload 5, 2) := dX12_findsBest_109g.2.2.2.2.1
theorem dX12_findsBest_115 : decode cX12_findsBest 115 = .ok (.iload 4, 2) := dX12_findsBest_109g.2.2.2.2.2.1
theorem dX12_findsBest_117 : decode cX12_findsBest 117 = .ok (.iadd, 1) := dX12_findsBest_109g.2.2.2.2.2.2.1
theorem dX12_findsBest_118 : decode cX12_findsBest 118 = .ok (.bipush 24, 2) := dX12_findsBest_109g.2.2.2.2.2.2.2.1
theorem dX12_findsBest_120 : decode cX12_findsBest 120 = .ok (.irem, 1) := dX12_findsBest_109g.2.2.2.2.2.2.2.2.1
theorem dX12_findsBest_121 : decode cX12_findsBest 121 = .ok (.iastore, 1) := dX12_findsBest_109g.2.2.2.2.2.2.2.2.2
theorem dX12_findsBest_122g : (decode cX12_findsBest 122 = .ok (.aload_n 0, 1)) ∧ (decode cX12_findsBest 123 = .ok (.invokevirtual 383, 3)) ∧ (decode cX12_findsBest 126 = .ok (.aload_n 0, 1)) ∧ (decode cX12_findsBest 127 = .ok (.invokevirtual 373, 3)) ∧ (decode cX12_findsBest 130 = .ok (.invokestatic 386, 3)) ∧ (decode cX12_findsBest 133 = .ok (.istore 6, 2)) ∧ (decode cX12_findsBest 135 = .ok (.iload 6, 2)) ∧ (decode cX12_findsBest 137 = .ok (.aload_n 0, 1)) ∧ (decode cX12_findsBest 138 = .ok (.getfield 380, 3)) ∧ (decode cX12_findsBest 141 = .ok (.if_icmp .gt 6, 3)) := by decide +kernel
theorem dX12_findsBest_122 : decode cX12_findsBest 122 = .ok (.aload_n 0, 1) := dX12_findsBest_122g.1
theorem dX12_findsBest_123 : decode cX12_findsBest 123 = .ok (.invokevirtual 383, 3) := dX12_findsBest_122g.2.1
theorem dX12_findsBest_126 : decode cX12_findsBest 126 = .ok (.aload_n 0, 1) := dX12_findsBest_122g.2.2.1
theorem dX12_findsBest_127 : decode cX12_findsBest 127 = .ok (.invokevirtual 373, 3) := dX12_findsBest_122g.2.2.2.1
theorem dX12_findsBest_130 : decode cX12_findsBest 130 = .ok (.invokestatic 386, 3) := dX12_findsBest_122g.2.2.2.2.1
theorem dX12_findsBest_133 : decode cX12_findsBest 133 = .ok (.istore 6, 2) := dX12_findsBest_122g.2.2.2.2.2.1
theorem dX12_findsBest_135 : decode cX12_findsBest 135 = .ok (.iload 6, 2) := dX12_findsBest_122g.2.2.2.2.2.2.1
theorem dX12_findsBest_137 : decode cX12_findsBest 137 = .ok (.aload_n 0, 1) := dX12_findsBest_122g.2.2.2.2.2.2.2.1
theorem dX12_findsBest_138 : decode cX12_findsBest 138 = .ok (.getfield 380, 3) := dX12_findsBest_122g.2.2.2.2.2.2.2.2.1
theorem dX12_findsBest_141 : decode cX12_findsBest 141 = .ok (.if_icmp .gt 6, 3) := dX12_findsBest_122g.2.2.2.2.2.2.2.2.2
theorem dX12_findsBest_144g : (decode cX12_findsBest 144 = .ok (.goto 21, 3)) ∧ (decode cX12_findsBest 147 = .ok (.aload_n 0, 1)) ∧ (decode cX12_findsBest 148 = .ok (.iload 6, 2)) ∧ (decode cX12_findsBest 150 = .ok (.putfield 380, 3)) ∧ (decode cX12_findsBest 153 = .ok (.aload_n 0, 1)) ∧ (decode cX12_findsBest 154 = .ok (.iload 5, 2)) ∧ (decode cX12_findsBest 156 = .ok (.putfield 389, 3)) ∧ (decode cX12_findsBest 159 = .ok (.aload_n 0, 1)) ∧ (decode cX12_findsBest 160 = .ok (.iload 4, 2)) ∧ (decode cX12_findsBest 162 = .ok (.putfield 392, 3)) := by decide +kernel
theorem dX12_findsBest_144 : decode cX12_findsBest 144 = .ok (.goto 21, 3) := dX12_findsBest_144g.1
theorem dX12_findsBest_147 : decode cX12_findsBest 147 = .ok (.aload_n 0, 1) := dX12_findsBest_144g.2.1
theorem dX12_findsBest_148 : decode cX12_findsBest 148 = .ok (.iload 6, 2) := dX12_findsBest_144g.2.2.1
theorem dX12_findsBest_150 : decode cX12_findsBest 150 = .ok (.putfield 380, 3) := dX12_findsBest_144g.2.2.2.1
theorem dX12_findsBest_153 : decode cX12_findsBest 153 = .ok (.aload_n 0, 1) := dX12_findsBest_144g.2.2.2.2.1
theorem dX12_findsBest_154 : decode cX12_findsBest 154 = .ok (.iload 5, 2) := dX12_findsBest_144g.2.2.2.2.2.1
theorem dX12_findsBest_156 : decode cX12_findsBest 156 = .ok (.putfield 389, 3) := dX12_findsBest_144g.2.2.2.2.2.2.1
theorem dX12_findsBest_159 : decode cX12_findsBest 159 = .ok (.aload_n 0, 1) := dX12_findsBest_144g.2.2.2.2.2.2.2.1
theorem dX12_findsBest_160 : decode cX12_findsBest 160 = .ok (.iload 4, 2) := dX12_findsBest_144g.2.2.2.2.2.2.2.2.1
theorem dX12_findsBest_162 : decode cX12_findsBest 162 = .ok (.putfield 392, 3) := dX12_findsBest_144g.2.2.2.2.2.2.2.2.2
theorem dX12_findsBest_165g : (decode cX12_findsBest 165 = .ok (.iinc 5 1, 3)) ∧ (decode cX12_findsBest 168 = .ok (.goto (-87), 3)) ∧ (decode cX12_findsBest 171 = .ok (.iinc 4 1, 3)) ∧ (decode cX12_findsBest 174 = .ok (.goto (-103), 3)) ∧ (decode cX12_findsBest 177 = .ok (.aload_n 0, 1)) ∧ (decode cX12_findsBest 178 = .ok (.getfield 20, 3)) ∧ (decode cX12_findsBest 181 = .ok (.iconst 0, 1)) ∧ (decode cX12_findsBest 182 = .ok (.iconst 5, 1)) ∧ (decode cX12_findsBest 183 = .ok (.iload_n 1, 1)) ∧ (decode cX12_findsBest 184 = .ok (.imul, 1)) := by decide +kernel
theorem dX12_findsBest_165 : decode cX12_findsBest 165 = .ok (.iinc 5 1, 3) := dX12_findsBest_165g.1
theorem dX12_findsBest_168 : decode cX12_findsBest 168 = .ok (.goto (-87), 3) := dX12_findsBest_165g.2.1
theorem dX12_findsBest_171 : decode cX12_findsBest 171 = .ok (.iinc 4 1, 3) := dX12_findsBest_165g.2.2.1
theorem dX12_findsBest_174 : decode cX12_findsBest 174 = .ok (.goto (-103), 3) := dX12_findsBest_165g.2.2.2.1
theorem dX12_findsBest_177 : decode cX12_findsBest 177 = .ok (.aload_n 0, 1) := dX12_findsBest_165g.2.2.2.2.1
theorem dX12_findsBest_178 : decode cX12_findsBest 178 = .ok (.getfield 20, 3) := dX12_findsBest_165g.2.2.2.2.2.1
theorem dX12_findsBest_181 : decode cX12_findsBest 181 = .ok (.iconst 0, 1) := dX12_findsBest_165g.2.2.2.2.2.2.1
theorem dX12_findsBest_182 : decode cX12_findsBest 182 = .ok (.iconst 5, 1) := dX12_findsBest_165g.2.2.2.2.2.2.2.1
theorem dX12_findsBest_183 : decode cX12_findsBest 183 = .ok (.iload_n 1, 1) := dX12_findsBest_165g.2.2.2.2.2.2.2.2.1
theorem dX12_findsBest_184 : decode cX12_findsBest 184 = .ok (.imul, 1) := dX12_findsBest_165g.2.2.2.2.2.2.2.2.2
theorem dX12_findsBest_185g : (decode cX12_findsBest 185 = .ok (.iadd, 1)) ∧ (decode cX12_findsBest 186 = .ok (.iconst 2, 1)) ∧ (decode cX12_findsBest 187 = .ok (.iadd, 1)) ∧ (decode cX12_findsBest 188 = .ok (.iload_n 2, 1)) ∧ (decode cX12_findsBest 189 = .ok (.iastore, 1)) ∧ (decode cX12_findsBest 190 = .ok (.aload_n 0, 1)) ∧ (decode cX12_findsBest 191 = .ok (.getfield 20, 3)) ∧ (decode cX12_findsBest 194 = .ok (.iconst 0, 1)) ∧ (decode cX12_findsBest 195 = .ok (.iconst 5, 1)) ∧ (decode cX12_findsBest 196 = .ok (.iload_n 1, 1)) := by decide +kernel
theorem dX12_findsBest_185 : decode cX12_findsBest 185 = .ok (.iadd, 1) := dX12_findsBest_185g.1
theorem dX12_findsBest_186 : decode cX12_findsBest 186 = .ok (.iconst 2, 1) := dX12_findsBest_185g.2.1
theorem dX12_findsBest_187 : decode cX12_findsBest 187 = .ok (.iadd, 1) := dX12_findsBest_185g.2.2.1
theorem dX12_findsBest_188 : decode cX12_findsBest 188 = .ok (.iload_n 2, 1) := dX12_findsBest_185g.2.2.2.1
theorem dX12_findsBest_189 : decode cX12_findsBest 189 = .ok (.iastore, 1) := dX12_findsBest_185g.2.2.2.2.1
theorem dX12_findsBest_190 : decode cX12_findsBest 190 = .ok (.aload_n 0, 1) := dX12_findsBest_185g.2.2.2.2.2.1
theorem dX12_findsBest_191 : decode cX12_findsBest 191 = .ok (.getfield 20, 3) := dX12_findsBest_185g.2.2.2.2.2.2.1
theorem dX12_findsBest_194 : decode cX12_findsBest 194 = .ok (.iconst 0, 1) := dX12_findsBest_185g.2.2.2.2.2.2.2.1
theorem dX12_findsBest_195 : decode cX12_findsBest 195 = .ok (.iconst 5, 1) := dX12_findsBest_185g.2.2.2.2.2.2.2.2.1
theorem dX12_findsBest_196 : decode cX12_findsBest 196 = .ok (.iload_n 1, 1) := dX12_findsBest_185g.2.2.2.2.2.2.2.2.2
theorem dX12_findsBest_197g : (decode cX12_findsBest 197 = .ok (.imul, 1)) ∧ (decode cX12_findsBest 198 = .ok (.iadd, 1)) ∧ (decode cX12_findsBest 199 = .ok (.iconst 3, 1)) ∧ (decode cX12_findsBest 200 = .ok (.iadd, 1)) ∧ (decode cX12_findsBest 201 = .ok (.iload_n 3, 1)) ∧ (decode cX12_findsBest 202 = .ok (.iastore, 1)) ∧ (decode cX12_findsBest 203 = .ok (.aload_n 0, 1)) ∧ (decode cX12_findsBest 204 = .ok (.invokevirtual 383, 3)) ∧ (decode cX12_findsBest 207 = .ok (.return_, 1)) := by decide +kernel
theorem dX12_findsBest_197 : decode cX12_findsBest 197 = .ok (.imul, 1) := dX12_findsBest_197g.1
theorem dX12_findsBest_198 : decode cX12_findsBest 198 = .ok (.iadd, 1) := dX12_findsBest_197g.2.1
theorem dX12_findsBest_199 : decode cX12_findsBest 199 = .ok (.iconst 3, 1) := dX12_findsBest_197g.2.2.1
theorem dX12_findsBest_200 : decode cX12_findsBest 200 = .ok (.iadd, 1) := dX12_findsBest_197g.2.2.2.1
theorem dX12_findsBest_201 : decode cX12_findsBest 201 = .ok (.iload_n 3, 1) := dX12_findsBest_197g.2.2.2.2.1
theorem dX12_findsBest_202 : decode cX12_findsBest 202 = .ok (.iastore, 1) := dX12_findsBest_197g.2.2.2.2.2.1
theorem dX12_findsBest_203 : decode cX12_findsBest 203 = .ok (.aload_n 0, 1) := dX12_findsBest_197g.2.2.2.2.2.2.1
theorem dX12_findsBest_204 : decode cX12_findsBest 204 = .ok (.invokevirtual 383, 3) := dX12_findsBest_197g.2.2.2.2.2.2.2.1
theorem dX12_findsBest_207 : decode cX12_findsBest 207 = .ok (.return_, 1) := dX12_findsBest_197g.2.2.2.2.2.2.2.2
set_option maxHeartbeats 4000000 in
set_option maxRecDepth 100000 in
theorem c_X12_findsBest (l : Launch) (E : Nat → Nat) (D : va_G) (G : th_G) (h0 : Nat) (hG0 : G h0 = some (10, 0)) (x1 : Int32) (hx1 : (0 : Int) ≤ x1.toInt ∧ x1.toInt ≤ 1) : Met l yX12_findsBest (tb (.code yX12_findsBest cX12_findsBest 7 none)) (rm 69) (va_Pc [.ref h0, .int x1] (PX E D G (fun H => True))) (QXv E D G (fun H => True)) 0 0 (th_A G) := by
  refine Met.ofW (cc := cX12_findsBest) (maxL := 7) (ret := none) (by decide) rfl ?_
  intro p e s m args below meth c s₁ B hml hv
  obtain ⟨hav, ⟨hI, hN, hK⟩, hX⟩ := hv
  have hx := B.exec
  have hb := B.bytes
  have hr := B.returns
  have hts := atoms_spec (ws := tb (.code yX12_findsBest cX12_findsBest 7 none)) B.pre
  have hown : s.vm.findClass RX12 = some m.cls := findClass_of_methodNamed B.named
  have hlocks := B.notSynchronized
  have hS : va_S (th_A G) s.heap s.heap [] := va_S.rf
  have hl := lv_entry ([.ref h0, .int x1]) (n := 7) (Nat.le_of_ble_eq_true rfl)
  rw [show entryFrame m args 7 = entryFrame m ([.ref h0, .int x1] : List Value).toArray 7 from by rw [hav], lg_entry_eq]
  generalize (lg_sl ([.ref h0, .int x1]) ++ List.replicate (7 - (lg_sl ([.ref h0, .int x1])).length) Slot.unset).toArray = ls at hl ⊢
  have hl : lv_has ls 7 [(0, .ref h0), (1, .int x1)] := hl
  generalize hR : (headSpec (tb (.code yX12_findsBest cX12_findsBest 7 none)) (rm 69)).room = R
  have hR := hR.symm
  generalize hQ : MQ below (QXv E D G (fun H => True)) args s 0 0 (th_A G) = QF
  have hQ := hQ.symm
  have J_71 : ∀ (nn : Nat) (H : Heap) (locs : List Loc) (ls : Array Slot) (v5251 : Int32) (v5252 : Int32) (v5253 : Int32) , (Int.toNat (7 - v5251.toInt) = nn) → lv_has ls 7 [(4, .int v5251), (3, .int v5252), (2, .int v5253), (0, .ref h0), (1, .int x1)] → ((1 : Int) ≤ v5251.toInt ∧ v5251.toInt ≤ 7) → ((0 : Int) ≤ x1.toInt ∧ x1.toInt ≤ 1) → th_I (okM E) D G [] H → va_S (th_A G) s.heap H locs → W p l e R s m args below meth c H locs 0 0 QF (F0 m 71 ls []) := by
    intro nn
    induction nn using Nat.strongRecOn with
    | ind nn ih_71 =>
      intro H locs ls v5251 v5252 v5253  hm hl k5254 k5255 hI hS
      have J_81 : ∀ (nn : Nat) (H : Heap) (locs : List Loc) (ls : Array Slot) (v5256 : Int32) , (Int.toNat (24 - v5256.toInt) = nn) → lv_has ls 7 [(5, .int v5256), (4, .int v5251), (3, .int v5252), (2, .int v5253), (0, .ref h0), (1, .int x1)] → ((0 : Int) ≤ v5256.toInt ∧ v5256.toInt ≤ 24) → ((1 : Int) ≤ v5251.toInt ∧ v5251.toInt ≤ 6) → th_I (okM E) D G [] H → va_S (th_A G) s.heap H locs → W p l e R s m args below meth c H locs 0 0 QF (F0 m 81 ls []) := by
        intro nn
        induction nn using Nat.strongRecOn with
        | ind nn ih_81 =>
          intro H locs ls v5256  hm hl k5260 k5261 hI hS
          have J_165 : ∀ (H : Heap) (locs : List Loc) (ls : Array Slot) (v5262 : Int32) , lv_has ls 7 [(6, .int v5262), (5, .int v5256), (4, .int v5251), (3, .int v5252), (2, .int v5253), (0, .ref h0), (1, .int x1)] → ((0 : Int) ≤ v5256.toInt ∧ v5256.toInt ≤ 23) → th_I (okM E) D G [] H → va_S (th_A G) s.heap H locs → W p l e R s m args below meth c H locs 0 0 QF (F0 m 165 ls []) := by
            intro H locs ls v5262  hl k5267 hI hS
            obtain ⟨v5268, e5269⟩ : ∃ y : Int32, y = v5256 + (1) := ⟨_, rfl⟩
            have tv5268 : v5268.toInt = v5256.toInt + (1) := iv_add rfl (by decide) e5269 (by omega) (by omega)
            refine lv_iinc (v := v5268) (lv' := [(5, .int v5268), (6, .int v5262), (4, .int v5251), (3, .int v5252), (2, .int v5253), (0, .ref h0), (1, .int x1)]) hx hb dX12_findsBest_165 hl (k := 1) rfl (by rw [e5269]; rfl) (by decide) rfl (fun ls hl => ?_)
            refine lv_goto (tgt := 81) hx hb dX12_findsBest_168 (by decide) ?_
            exact ih_81 _ (by omega) H locs ls v5268  rfl (lv_sub hl [0, 2, 3, 4, 5, 6] rfl) ⟨by omega, by omega⟩ ⟨by omega, by omega⟩ hI hS
          refine lv_iload hx hb dX12_findsBest_81 (lv_at hl 0 rfl) ?_
          refine lv_bipush (v := 24) hx hb dX12_findsBest_83 (by decide) ?_
          refine lv_icmp_ge (tgt := 171) hx hb dX12_findsBest_85 (by decide) (fun c5270 => ?_) (fun c5270 => ?_)
          · skip
            have k5271 := iv_le (X := (24)) (Y := v5256.toInt) (by decide) rfl c5270
            obtain ⟨v5272, e5273⟩ : ∃ y : Int32, y = v5251 + (1) := ⟨_, rfl⟩
            have tv5272 : v5272.toInt = v5251.toInt + (1) := iv_add rfl (by decide) e5273 (by omega) (by omega)
            refine lv_iinc (v := v5272) (lv' := [(4, .int v5272), (5, .int v5256), (3, .int v5252), (2, .int v5253), (0, .ref h0), (1, .int x1)]) hx hb dX12_findsBest_171 hl (k := 1) rfl (by rw [e5273]; rfl) (by decide) rfl (fun ls hl => ?_)
            refine lv_goto (tgt := 71) hx hb dX12_findsBest_174 (by decide) ?_
            exact ih_71 _ (by omega) H locs ls v5272 v5252 v5253  rfl (lv_sub hl [0, 2, 3, 4, 5] rfl) ⟨by omega, by omega⟩ ⟨by omega, by omega⟩ hI hS
          · skip
            have k5274 := iv_nle (X := (24)) (Y := v5256.toInt) (by decide) rfl c5270
            refine lv_aload_n hx hb dX12_findsBest_88 rfl (lv_at hl 4 rfl) ?_
            refine gmA hx hb hts inT12 hown hK hI List.not_mem_nil hG0 3 (by decide) (hts _ (tb_c wd_1236)) rfl rfl dX12_findsBest_89 (fun a5275 hq5276 hf5277 => ?_)
            refine lv_iconst (v := 0) hx hb dX12_findsBest_92 (by decide) ?_
            refine lv_iconst (v := 5) hx hb dX12_findsBest_93 (by decide) ?_
            refine lv_iload_n hx hb dX12_findsBest_94 rfl (lv_at hl 5 rfl) ?_
            refine lv_imul hx hb dX12_findsBest_95 ?_
            refine lv_topi (fun v5278 e5279 => ?_)
            have tv5278 : v5278.toInt = (5) * x1.toInt := iv_mul (by decide) rfl e5279 (by omega) (by omega)
            refine lv_iadd hx hb dX12_findsBest_96 ?_
            refine lv_topi (fun v5280 e5281 => ?_)
            have tv5280 : v5280.toInt = (0) + v5278.toInt := iv_add (by decide) rfl e5281 (by omega) (by omega)
            refine lv_iconst (v := 2) hx hb dX12_findsBest_97 (by decide) ?_
            refine lv_iadd hx hb dX12_findsBest_98 ?_
            refine lv_topi (fun v5282 e5283 => ?_)
            have tv5282 : v5282.toInt = v5280.toInt + (2) := iv_add rfl (by decide) e5283 (by omega) (by omega)
            refine lv_iload hx hb dX12_findsBest_99 (lv_at hl 0 rfl) ?_
            obtain ⟨F5284, hA5285, hP5286⟩ := om_1 hI hq5276 List.not_mem_nil
            refine th_iast hx hb hK hA5285 0 rfl hS ⟨_, hq5276⟩ (iv_in (X := v5282.toInt) rfl (by omega) (by omega)) dX12_findsBest_101 (fun H locs hA5287 oq hS => ?_)
            have hP5288 := kOk.set (i := v5282) (v := v5256) hP5286 (X := v5282.toInt) (V := v5256.toInt) rfl rfl (by omega) (by omega) (ks_pumps (by omega) (by omega) (by omega))
            have hI := th_I.put hI hq5276 hA5287 (ok_m1 hP5288) oq
            have hf5277 := fr.arr hG0 hq5276 (by decide) oq hf5277
            have e5289 : v5256 = (upd F5284 (v5282 : Int32).toNatClampNeg v5256) (v5282 : Int32).toNatClampNeg := rd_us
            refine lv_aload_n hx hb dX12_findsBest_102 rfl (lv_at hl 4 rfl) ?_
            refine gmA hx hb hts inT12 hown hK hI List.not_mem_nil hG0 3 (by decide) (hts _ (tb_c wd_1236)) rfl rfl dX12_findsBest_103 (fun a5290 hq5291 hf5292 => ?_)
            obtain rfl := fr.uniq (by decide) hf5277 hf5292
            refine lv_iconst (v := 0) hx hb dX12_findsBest_106 (by decide) ?_
            refine lv_iconst (v := 5) hx hb dX12_findsBest_107 (by decide) ?_
            refine lv_iload_n hx hb dX12_findsBest_108 rfl (lv_at hl 5 rfl) ?_
            refine lv_imul hx hb dX12_findsBest_109 ?_
            refine lv_topi (fun v5293 e5294 => ?_)
            have tv5293 : v5293.toInt = (5) * x1.toInt := iv_mul (by decide) rfl e5294 (by omega) (by omega)
            refine lv_iadd hx hb dX12_findsBest_110 ?_
            refine lv_topi (fun v5295 e5296 => ?_)
            have tv5295 : v5295.toInt = (0) + v5293.toInt := iv_add (by decide) rfl e5296 (by omega) (by omega)
            refine lv_iconst (v := 3) hx hb dX12_findsBest_111 (by decide) ?_
            refine lv_iadd hx hb dX12_findsBest_112 ?_
            refine lv_topi (fun v5297 e5298 => ?_)
            have tv5297 : v5297.toInt = v5295.toInt + (3) := iv_add rfl (by decide) e5298 (by omega) (by omega)
            refine lv_iload hx hb dX12_findsBest_113 (lv_at hl 0 rfl) ?_
            refine lv_iload hx hb dX12_findsBest_115 (lv_at hl 1 rfl) ?_
            refine lv_iadd hx hb dX12_findsBest_117 ?_
            refine lv_topi (fun v5299 e5300 => ?_)
            have tv5299 : v5299.toInt = v5256.toInt + v5251.toInt := iv_add rfl rfl e5300 (by omega) (by omega)
            refine lv_bipush (v := 24) hx hb dX12_findsBest_118 (by decide) ?_
            refine lv_irem hx hb dX12_findsBest_120 (by decide) ?_
            refine lv_topi (fun v5301 e5302 => ?_)
            have tv5301 := iv_remp (X := v5299.toInt) (Y := 24) rfl (by decide) e5302 (by decide) (by omega)
            refine th_iast hx hb hK hA5287 0 rfl hS ⟨_, hq5276⟩ (iv_in (X := v5297.toInt) rfl (by omega) (by omega)) dX12_findsBest_121 (fun H locs hA5303 oq hS => ?_)
            have hP5304 := kOk.set (i := v5297) (v := v5301) hP5288 (X := v5297.toInt) (V := v5301.toInt) rfl rfl (by omega) (by omega) (ks_pumps (by omega) (by omega) (by omega))
            have hI := th_I.put hI hq5276 hA5303 (ok_m1 hP5304) oq
            have hf5277 := fr.arr hG0 hq5276 (by decide) oq hf5277
            have e5305 := rd_un (i := v5282) (j := v5297) (v := v5301) e5289 (X := v5282.toInt) (Y := v5297.toInt) rfl rfl (by omega) (by omega) (by omega)
            have e5306 : v5301 = (upd (upd F5284 (v5282 : Int32).toNatClampNeg v5256) (v5297 : Int32).toNatClampNeg v5301) (v5297 : Int32).toNatClampNeg := rd_us
            refine lv_aload_n hx hb dX12_findsBest_122 rfl (lv_at hl 4 rfl) ?_
            refine mx_v (As := []) (rest := []) (n := 0) (d := 68) ⟨hx, hb, hml, hown, hts⟩ (c_X12_laysFlows l E D G h0 hG0 ) wd_1836 wd_1838 wp_93 wd_13 wd_1839 (by decide +kernel) ⟨by rw [hR]; exact Nat.le_of_ble_eq_true rfl, by rw [hR]; exact Nat.le_of_ble_eq_true rfl⟩ hI hN hK hS hG0 (trivial) rfl hl.1 rfl (Nat.le_of_ble_eq_true rfl) dX12_findsBest_123 ⟨Nat.zero_le _, Nat.zero_le _⟩ (fun H locs hI hp hS => ?_)
            refine lv_aload_n hx hb dX12_findsBest_126 rfl (lv_at hl 4 rfl) ?_
            refine mr_i (As := []) (rest := []) (n := 0) (d := 1) ⟨hx, hb, hml, hown, hts⟩ (c_X12_grants l E D G H h0 hG0 ) wd_1824 wd_1826 wp_91 wd_13 wd_1827 (by decide +kernel) ⟨by rw [hR]; exact Nat.le_of_ble_eq_true rfl, by rw [hR]; exact Nat.le_of_ble_eq_true rfl⟩ hI hN hK hS hG0 rfl hl.1 rfl (Nat.le_of_ble_eq_true rfl) dX12_findsBest_127 ⟨Nat.zero_le _, Nat.zero_le _⟩ (fun r5308 locs hp hS => ?_)
            refine th_cSs (As := [.int r5308]) (rest := []) (n := 1) (d := 0) ⟨hx, hb, hml, hown, hts⟩ (c_X12_ones l H r5308) wd_1840 wd_1841 wd_13 wd_1842 (by decide +kernel) ⟨by rw [hR]; exact Nat.le_of_ble_eq_true rfl, by rw [hR]; exact Nat.le_of_ble_eq_true rfl⟩ hN hS rfl hl.1 rfl (Nat.le_of_ble_eq_true rfl) dX12_findsBest_130 ⟨Nat.zero_le _, Nat.zero_le _⟩ (fun r5309 locs hp hS => ?_)
            refine lv_istore (lv' := [(6, .int r5309), (5, .int v5256), (4, .int v5251), (3, .int v5252), (2, .int v5253), (0, .ref h0), (1, .int x1)]) hx hb dX12_findsBest_133 hl (by decide) rfl (fun ls hl => ?_)
            refine lv_iload hx hb dX12_findsBest_135 (lv_at hl 0 rfl) ?_
            refine lv_aload_n hx hb dX12_findsBest_137 rfl (lv_at hl 5 rfl) ?_
            refine gmI hx hb hts inT12 hown hK hI List.not_mem_nil hG0 44 (by decide) (hts _ (tb_c wd_1277)) rfl rfl dX12_findsBest_138 (fun w5310 hg5311 k5312 k5313 => ?_)
            have k5314 := iv_lo r5309
            have k5315 := iv_hi r5309
            refine lv_icmp_gt (tgt := 147) hx hb dX12_findsBest_141 (by decide) (fun c5316 => ?_) (fun c5316 => ?_)
            · skip
              have k5317 := iv_lt (X := w5310.toInt) (Y := r5309.toInt) rfl rfl c5316
              refine lv_aload_n hx hb dX12_findsBest_147 rfl (lv_at hl 5 rfl) ?_
              refine lv_iload hx hb dX12_findsBest_148 (lv_at hl 0 rfl) ?_
              refine pmI (ty := .int) hx hb hts inT12 hown hK hI List.not_mem_nil hG0 hS ⟨_, hG0⟩ 44 (by decide) (hts _ (tb_c wd_1277)) rfl rfl (by decide +kernel) rfl rfl rfl (by omega) (by omega) dX12_findsBest_150 (fun H locs hI hgP hS => ?_)
              have hg5318 := hgP.2.1
              refine lv_aload_n hx hb dX12_findsBest_153 rfl (lv_at hl 5 rfl) ?_
              refine lv_iload hx hb dX12_findsBest_154 (lv_at hl 1 rfl) ?_
              refine pmI (ty := .int) hx hb hts inT12 hown hK hI List.not_mem_nil hG0 hS ⟨_, hG0⟩ 45 (by decide) (hts _ (tb_c wd_1278)) rfl rfl (by decide +kernel) rfl rfl rfl (by omega) (by omega) dX12_findsBest_156 (fun H locs hI hgP hS => ?_)
              have hg5318 := hgP.2.2.1 44 _ (by decide) (by decide) hg5318
              have hg5319 := hgP.2.1
              refine lv_aload_n hx hb dX12_findsBest_159 rfl (lv_at hl 5 rfl) ?_
              refine lv_iload hx hb dX12_findsBest_160 (lv_at hl 2 rfl) ?_
              refine pmI (ty := .int) hx hb hts inT12 hown hK hI List.not_mem_nil hG0 hS ⟨_, hG0⟩ 46 (by decide) (hts _ (tb_c wd_1279)) rfl rfl (by decide +kernel) rfl rfl rfl (by omega) (by omega) dX12_findsBest_162 (fun H locs hI hgP hS => ?_)
              have hg5318 := hgP.2.2.1 44 _ (by decide) (by decide) hg5318
              have hg5319 := hgP.2.2.1 45 _ (by decide) (by decide) hg5319
              have hg5320 := hgP.2.1
              exact J_165 H locs ls r5309  (lv_sub hl [0, 1, 2, 3, 4, 5, 6] rfl) ⟨by omega, by omega⟩ hI hS
            · skip
              have k5321 := iv_nlt (X := w5310.toInt) (Y := r5309.toInt) rfl rfl c5316
              refine lv_goto (tgt := 165) hx hb dX12_findsBest_144 (by decide) ?_
              exact J_165 H locs ls r5309  (lv_sub hl [0, 1, 2, 3, 4, 5, 6] rfl) ⟨by omega, by omega⟩ hI hS
      refine lv_iload hx hb dX12_findsBest_71 (lv_at hl 0 rfl) ?_
      refine lv_bipush (v := 6) hx hb dX12_findsBest_73 (by decide) ?_
      refine lv_icmp_gt (tgt := 177) hx hb dX12_findsBest_75 (by decide) (fun c5322 => ?_) (fun c5322 => ?_)
      · skip
        have k5323 := iv_lt (X := (6)) (Y := v5251.toInt) (by decide) rfl c5322
        refine lv_aload_n hx hb dX12_findsBest_177 rfl (lv_at hl 3 rfl) ?_
        refine gmA hx hb hts inT12 hown hK hI List.not_mem_nil hG0 3 (by decide) (hts _ (tb_c wd_1236)) rfl rfl dX12_findsBest_178 (fun a5324 hq5325 hf5326 => ?_)
        refine lv_iconst (v := 0) hx hb dX12_findsBest_181 (by decide) ?_
        refine lv_iconst (v := 5) hx hb dX12_findsBest_182 (by decide) ?_
        refine lv_iload_n hx hb dX12_findsBest_183 rfl (lv_at hl 4 rfl) ?_
        refine lv_imul hx hb dX12_findsBest_184 ?_
        refine lv_topi (fun v5327 e5328 => ?_)
        have tv5327 : v5327.toInt = (5) * x1.toInt := iv_mul (by decide) rfl e5328 (by omega) (by omega)
        refine lv_iadd hx hb dX12_findsBest_185 ?_
        refine lv_topi (fun v5329 e5330 => ?_)
        have tv5329 : v5329.toInt = (0) + v5327.toInt := iv_add (by decide) rfl e5330 (by omega) (by omega)
        refine lv_iconst (v := 2) hx hb dX12_findsBest_186 (by decide) ?_
        refine lv_iadd hx hb dX12_findsBest_187 ?_
        refine lv_topi (fun v5331 e5332 => ?_)
        have tv5331 : v5331.toInt = v5329.toInt + (2) := iv_add rfl (by decide) e5332 (by omega) (by omega)
        refine lv_iload_n hx hb dX12_findsBest_188 rfl (lv_at hl 2 rfl) ?_
        obtain ⟨F5333, hA5334, hP5335⟩ := om_1 hI hq5325 List.not_mem_nil
        refine th_iast hx hb hK hA5334 0 rfl hS ⟨_, hq5325⟩ (iv_in (X := v5331.toInt) rfl (by omega) (by omega)) dX12_findsBest_189 (fun H locs hA5336 oq hS => ?_)
        have k5337 := iv_lo v5253
        have k5338 := iv_hi v5253
        have hP5339 := kOk.set (i := v5331) (v := v5253) hP5335 (X := v5331.toInt) (V := v5253.toInt) rfl rfl (by omega) (by omega) (ks_pumps (by omega) (by omega) (by omega))
        have hI := th_I.put hI hq5325 hA5336 (ok_m1 hP5339) oq
        have hf5326 := fr.arr hG0 hq5325 (by decide) oq hf5326
        have e5340 : v5253 = (upd F5333 (v5331 : Int32).toNatClampNeg v5253) (v5331 : Int32).toNatClampNeg := rd_us
        refine lv_aload_n hx hb dX12_findsBest_190 rfl (lv_at hl 3 rfl) ?_
        refine gmA hx hb hts inT12 hown hK hI List.not_mem_nil hG0 3 (by decide) (hts _ (tb_c wd_1236)) rfl rfl dX12_findsBest_191 (fun a5341 hq5342 hf5343 => ?_)
        obtain rfl := fr.uniq (by decide) hf5326 hf5343
        refine lv_iconst (v := 0) hx hb dX12_findsBest_194 (by decide) ?_
        refine lv_iconst (v := 5) hx hb dX12_findsBest_195 (by decide) ?_
        refine lv_iload_n hx hb dX12_findsBest_196 rfl (lv_at hl 4 rfl) ?_
        refine lv_imul hx hb dX12_findsBest_197 ?_
        refine lv_topi (fun v5344 e5345 => ?_)
        have tv5344 : v5344.toInt = (5) * x1.toInt := iv_mul (by decide) rfl e5345 (by omega) (by omega)
        refine lv_iadd hx hb dX12_findsBest_198 ?_
        refine lv_topi (fun v5346 e5347 => ?_)
        have tv5346 : v5346.toInt = (0) + v5344.toInt := iv_add (by decide) rfl e5347 (by omega) (by omega)
        refine lv_iconst (v := 3) hx hb dX12_findsBest_199 (by decide) ?_
        refine lv_iadd hx hb dX12_findsBest_200 ?_
        refine lv_topi (fun v5348 e5349 => ?_)
        have tv5348 : v5348.toInt = v5346.toInt + (3) := iv_add rfl (by decide) e5349 (by omega) (by omega)
        refine lv_iload_n hx hb dX12_findsBest_201 rfl (lv_at hl 1 rfl) ?_
        refine th_iast hx hb hK hA5336 0 rfl hS ⟨_, hq5325⟩ (iv_in (X := v5348.toInt) rfl (by omega) (by omega)) dX12_findsBest_202 (fun H locs hA5350 oq hS => ?_)
        have k5351 := iv_lo v5252
        have k5352 := iv_hi v5252
        have hP5353 := kOk.set (i := v5348) (v := v5252) hP5339 (X := v5348.toInt) (V := v5252.toInt) rfl rfl (by omega) (by omega) (ks_pumps (by omega) (by omega) (by omega))
        have hI := th_I.put hI hq5325 hA5350 (ok_m1 hP5353) oq
        have hf5326 := fr.arr hG0 hq5325 (by decide) oq hf5326
        have e5354 := rd_un (i := v5331) (j := v5348) (v := v5252) e5340 (X := v5331.toInt) (Y := v5348.toInt) rfl rfl (by omega) (by omega) (by omega)
        have e5355 : v5252 = (upd (upd F5333 (v5331 : Int32).toNatClampNeg v5253) (v5348 : Int32).toNatClampNeg v5252) (v5348 : Int32).toNatClampNeg := rd_us
        refine lv_aload_n hx hb dX12_findsBest_203 rfl (lv_at hl 3 rfl) ?_
        refine mx_v (As := []) (rest := []) (n := 0) (d := 68) ⟨hx, hb, hml, hown, hts⟩ (c_X12_laysFlows l E D G h0 hG0 ) wd_1836 wd_1838 wp_93 wd_13 wd_1839 (by decide +kernel) ⟨by rw [hR]; exact Nat.le_of_ble_eq_true rfl, by rw [hR]; exact Nat.le_of_ble_eq_true rfl⟩ hI hN hK hS hG0 (trivial) rfl hl.1 rfl (Nat.le_of_ble_eq_true rfl) dX12_findsBest_204 ⟨Nat.zero_le _, Nat.zero_le _⟩ (fun H locs hI hp hS => ?_)
        have hpost : True := trivial
        rw [hQ]
        exact W.vret hx hb hr (fun t ht hW => ⟨⟨(), rfl, trivial, ⟨by rw [ht]; exact hI, hN.warm hW, va_K.moved hW.alike hK⟩, by first | (rw [ht]; exact hpost) | exact hpost⟩, hS.F ht⟩) hS.2.2 dX12_findsBest_207
      · skip
        have k5357 := iv_nlt (X := (6)) (Y := v5251.toInt) (by decide) rfl c5322
        refine lv_iconst (v := 0) hx hb dX12_findsBest_78 (by decide) ?_
        refine lv_istore (lv' := [(5, .int 0), (4, .int v5251), (3, .int v5252), (2, .int v5253), (0, .ref h0), (1, .int x1)]) hx hb dX12_findsBest_79 hl (by decide) rfl (fun ls hl => ?_)
        have zl : (0 : Int32).toInt = 0 := by decide
        exact J_81 _ H locs ls 0  rfl (lv_sub hl [0, 1, 2, 3, 4, 5] rfl) ⟨by decide, by decide⟩ ⟨by omega, by omega⟩ hI hS
  have J_20 : ∀ (H : Heap) (locs : List Loc) (ls : Array Slot)  , lv_has ls 7 [(0, .ref h0), (1, .int x1)] → ((0 : Int) ≤ x1.toInt ∧ x1.toInt ≤ 1) → th_I (okM E) D G [] H → va_S (th_A G) s.heap H locs → W p l e R s m args below meth c H locs 0 0 QF (F0 m 20 ls []) := by
    intro H locs ls   hl k5358 hI hS
    refine lv_aload_n hx hb dX12_findsBest_20 rfl (lv_at hl 0 rfl) ?_
    refine mx_v (As := []) (rest := []) (n := 0) (d := 68) ⟨hx, hb, hml, hown, hts⟩ (c_X12_looks l E D G h0 hG0 ) wd_1455 wd_1457 wp_43 wd_13 wd_1458 (by decide +kernel) ⟨by rw [hR]; exact Nat.le_of_ble_eq_true rfl, by rw [hR]; exact Nat.le_of_ble_eq_true rfl⟩ hI hN hK hS hG0 (trivial) rfl hl.1 rfl (Nat.le_of_ble_eq_true rfl) dX12_findsBest_21 ⟨Nat.zero_le _, Nat.zero_le _⟩ (fun H locs hI hp hS => ?_)
    refine lv_aload_n hx hb dX12_findsBest_24 rfl (lv_at hl 0 rfl) ?_
    refine lv_aload_n hx hb dX12_findsBest_25 rfl (lv_at hl 0 rfl) ?_
    refine gmI hx hb hts inT12 hown hK hI List.not_mem_nil hG0 1 (by decide) (hts _ (tb_c wd_1234)) rfl rfl dX12_findsBest_26 (fun w5360 hg5361 k5362 k5363 => ?_)
    refine pmI (ty := .int) hx hb hts inT12 hown hK hI List.not_mem_nil hG0 hS ⟨_, hG0⟩ 47 (by decide) (hts _ (tb_c wd_1280)) rfl rfl (by decide +kernel) rfl rfl rfl (by omega) (by omega) dX12_findsBest_29 (fun H locs hI hgP hS => ?_)
    have hg5361 := hgP.2.2.1 1 _ (by decide) (by decide) hg5361
    have hg5364 := hgP.2.1
    refine lv_aload_n hx hb dX12_findsBest_32 rfl (lv_at hl 0 rfl) ?_
    refine lv_iload_n hx hb dX12_findsBest_33 rfl (lv_at hl 1 rfl) ?_
    refine pmI (ty := .int) hx hb hts inT12 hown hK hI List.not_mem_nil hG0 hS ⟨_, hG0⟩ 48 (by decide) (hts _ (tb_c wd_1281)) rfl rfl (by decide +kernel) rfl rfl rfl (by omega) (by omega) dX12_findsBest_34 (fun H locs hI hgP hS => ?_)
    have hg5361 := hgP.2.2.1 1 _ (by decide) (by decide) hg5361
    have hg5364 := hgP.2.2.1 47 _ (by decide) (by decide) hg5364
    have hg5365 := hgP.2.1
    refine lv_aload_n hx hb dX12_findsBest_37 rfl (lv_at hl 0 rfl) ?_
    refine gmA hx hb hts inT12 hown hK hI List.not_mem_nil hG0 3 (by decide) (hts _ (tb_c wd_1236)) rfl rfl dX12_findsBest_38 (fun a5366 hq5367 hf5368 => ?_)
    refine lv_iconst (v := 0) hx hb dX12_findsBest_41 (by decide) ?_
    refine lv_iconst (v := 5) hx hb dX12_findsBest_42 (by decide) ?_
    refine lv_iload_n hx hb dX12_findsBest_43 rfl (lv_at hl 1 rfl) ?_
    refine lv_imul hx hb dX12_findsBest_44 ?_
    refine lv_topi (fun v5369 e5370 => ?_)
    have tv5369 : v5369.toInt = (5) * x1.toInt := iv_mul (by decide) rfl e5370 (by omega) (by omega)
    refine lv_iadd hx hb dX12_findsBest_45 ?_
    refine lv_topi (fun v5371 e5372 => ?_)
    have tv5371 : v5371.toInt = (0) + v5369.toInt := iv_add (by decide) rfl e5372 (by omega) (by omega)
    refine lv_iconst (v := 2) hx hb dX12_findsBest_46 (by decide) ?_
    refine lv_iadd hx hb dX12_findsBest_47 ?_
    refine lv_topi (fun v5373 e5374 => ?_)
    have tv5373 : v5373.toInt = v5371.toInt + (2) := iv_add rfl (by decide) e5374 (by omega) (by omega)
    obtain ⟨F5375, hA5376, hP5377⟩ := om_1 hI hq5367 List.not_mem_nil
    refine th_iald hx hb hK hA5376 0 rfl (iv_in (X := v5373.toInt) rfl (by omega) (by omega)) dX12_findsBest_48 (fun v5378 e5379 => ?_)
    refine lv_istore_n (lv' := [(2, .int v5378), (0, .ref h0), (1, .int x1)]) hx hb dX12_findsBest_49 rfl hl (by decide) rfl (fun ls hl => ?_)
    refine lv_aload_n hx hb dX12_findsBest_50 rfl (lv_at hl 1 rfl) ?_
    refine gmA hx hb hts inT12 hown hK hI List.not_mem_nil hG0 3 (by decide) (hts _ (tb_c wd_1236)) rfl rfl dX12_findsBest_51 (fun a5380 hq5381 hf5382 => ?_)
    obtain rfl := fr.uniq (by decide) hf5368 hf5382
    refine lv_iconst (v := 0) hx hb dX12_findsBest_54 (by decide) ?_
    refine lv_iconst (v := 5) hx hb dX12_findsBest_55 (by decide) ?_
    refine lv_iload_n hx hb dX12_findsBest_56 rfl (lv_at hl 2 rfl) ?_
    refine lv_imul hx hb dX12_findsBest_57 ?_
    refine lv_topi (fun v5383 e5384 => ?_)
    have tv5383 : v5383.toInt = (5) * x1.toInt := iv_mul (by decide) rfl e5384 (by omega) (by omega)
    refine lv_iadd hx hb dX12_findsBest_58 ?_
    refine lv_topi (fun v5385 e5386 => ?_)
    have tv5385 : v5385.toInt = (0) + v5383.toInt := iv_add (by decide) rfl e5386 (by omega) (by omega)
    refine lv_iconst (v := 3) hx hb dX12_findsBest_59 (by decide) ?_
    refine lv_iadd hx hb dX12_findsBest_60 ?_
    refine lv_topi (fun v5387 e5388 => ?_)
    have tv5387 : v5387.toInt = v5385.toInt + (3) := iv_add rfl (by decide) e5388 (by omega) (by omega)
    refine th_iald hx hb hK hA5376 0 rfl (iv_in (X := v5387.toInt) rfl (by omega) (by omega)) dX12_findsBest_61 (fun v5389 e5390 => ?_)
    refine lv_istore_n (lv' := [(3, .int v5389), (2, .int v5378), (0, .ref h0), (1, .int x1)]) hx hb dX12_findsBest_62 rfl hl (by decide) rfl (fun ls hl => ?_)
    refine lv_aload_n hx hb dX12_findsBest_63 rfl (lv_at hl 2 rfl) ?_
    refine lv_iconst (v := (-1)) hx hb dX12_findsBest_64 (by decide) ?_
    refine pmI (ty := .int) hx hb hts inT12 hown hK hI List.not_mem_nil hG0 hS ⟨_, hG0⟩ 44 (by decide) (hts _ (tb_c wd_1277)) rfl rfl (by decide +kernel) rfl rfl rfl (by decide) (by decide) dX12_findsBest_65 (fun H locs hI hgP hS => ?_)
    have hg5361 := hgP.2.2.1 1 _ (by decide) (by decide) hg5361
    have hg5364 := hgP.2.2.1 47 _ (by decide) (by decide) hg5364
    have hg5365 := hgP.2.2.1 48 _ (by decide) (by decide) hg5365
    have hg5391 := hgP.2.1
    have hf5368 := hgP.2.2.2 3 _ (by decide) (by decide) hf5368
    have hA5376 := va_at.kept hA5376 (hgP.1 _ (m_ne hq5367 hG0 (by first | decide | (dsimp only; decide))))
    refine lv_iconst (v := 1) hx hb dX12_findsBest_68 (by decide) ?_
    refine lv_istore (lv' := [(4, .int 1), (3, .int v5389), (2, .int v5378), (0, .ref h0), (1, .int x1)]) hx hb dX12_findsBest_69 hl (by decide) rfl (fun ls hl => ?_)
    have zl : (1 : Int32).toInt = 1 := by decide
    exact J_71 _ H locs ls 1 v5389 v5378  rfl (lv_sub hl [0, 1, 2, 3, 4] rfl) ⟨by decide, by decide⟩ ⟨by omega, by omega⟩ hI hS
  refine lv_aload_n hx hb dX12_findsBest_0 rfl (lv_at hl 0 rfl) ?_
  refine gmI hx hb hts inT12 hown hK hI List.not_mem_nil hG0 47 (by decide) (hts _ (tb_c wd_1280)) rfl rfl dX12_findsBest_1 (fun w5392 hg5393 k5394 k5395 => ?_)
  refine lv_aload_n hx hb dX12_findsBest_4 rfl (lv_at hl 0 rfl) ?_
  refine gmI hx hb hts inT12 hown hK hI List.not_mem_nil hG0 1 (by decide) (hts _ (tb_c wd_1234)) rfl rfl dX12_findsBest_5 (fun w5396 hg5397 k5398 k5399 => ?_)
  refine lv_icmp_ne (tgt := 20) hx hb dX12_findsBest_8 (by decide) (fun c5400 => ?_) (fun c5400 => ?_)
  · skip
    have k5401 := iv_ne (X := w5392.toInt) (Y := w5396.toInt) rfl rfl c5400
    exact J_20 s.heap [] ls   (lv_sub hl [0, 1] rfl) ⟨by omega, by omega⟩ hI hS
  · skip
    have k5402 := iv_eq (X := w5392.toInt) (Y := w5396.toInt) rfl rfl c5400
    refine lv_aload_n hx hb dX12_findsBest_11 rfl (lv_at hl 0 rfl) ?_
    refine gmI hx hb hts inT12 hown hK hI List.not_mem_nil hG0 48 (by decide) (hts _ (tb_c wd_1281)) rfl rfl dX12_findsBest_12 (fun w5403 hg5404 k5405 k5406 => ?_)
    refine lv_iload_n hx hb dX12_findsBest_15 rfl (lv_at hl 1 rfl) ?_
    refine lv_icmp_ne (tgt := 20) hx hb dX12_findsBest_16 (by decide) (fun c5407 => ?_) (fun c5407 => ?_)
    · skip
      have k5408 := iv_ne (X := w5403.toInt) (Y := x1.toInt) rfl rfl c5407
      exact J_20 s.heap [] ls   (lv_sub hl [0, 1] rfl) ⟨by omega, by omega⟩ hI hS
    · skip
      have k5409 := iv_eq (X := w5403.toInt) (Y := x1.toInt) rfl rfl c5407
      have hpost : True := trivial
      rw [hQ]
      exact W.vret hx hb hr (fun t ht hW => ⟨⟨(), rfl, trivial, ⟨by rw [ht]; exact hI, hN.warm hW, va_K.moved hW.alike hK⟩, by first | (rw [ht]; exact hpost) | exact hpost⟩, hS.F ht⟩) hS.2.2 dX12_findsBest_19
