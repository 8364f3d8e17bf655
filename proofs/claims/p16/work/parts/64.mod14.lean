theorem wd_1240 : (Cond.fieldLink RX12 (30 : Nat) "NineRiverModel" "words" "[B") ∈ TB := tw 1240 (by decide +kernel) (by decide +kernel)
theorem dX12_wordOf_0g : (decode cX12_wordOf 0 = .ok (.iconst 1, 1)) ∧ (decode cX12_wordOf 1 = .ok (.istore_n 3, 1)) ∧ (decode cX12_wordOf 2 = .ok (.iconst 0, 1)) ∧ (decode cX12_wordOf 3 = .ok (.istore 4, 2)) ∧ (decode cX12_wordOf 5 = .ok (.iload 4, 2)) ∧ (decode cX12_wordOf 7 = .ok (.aload_n 0, 1)) ∧ (decode cX12_wordOf 8 = .ok (.getfield 30, 3)) ∧ (decode cX12_wordOf 11 = .ok (.arraylength, 1)) ∧ (decode cX12_wordOf 12 = .ok (.if_icmp .ge 114, 3)) ∧ (decode cX12_wordOf 15 = .ok (.iconst 0, 1)) := by decide +kernel
theorem dX12_wordOf_0 : decode cX12_wordOf 0 = .ok (.iconst 1, 1) := dX12_wordOf_0g.1
theorem dX12_wordOf_1 : decode cX12_wordOf 1 = .ok (.istore_n 3, 1) := dX12_wordOf_0g.2.1
theorem dX12_wordOf_2 : decode cX12_wordOf 2 = .ok (.iconst 0, 1) := dX12_wordOf_0g.2.2.1
theorem dX12_wordOf_3 : decode cX12_wordOf 3 = .ok (.istore 4, 2) := dX12_wordOf_0g.2.2.2.1
theorem dX12_wordOf_5 : decode cX12_wordOf 5 = .ok (.iload 4, 2) := dX12_wordOf_0g.2.2.2.2.1
theorem dX12_wordOf_7 : decode cX12_wordOf 7 = .ok (.aload_n 0, 1) := dX12_wordOf_0g.2.2.2.2.2.1
theorem dX12_wordOf_8 : decode cX12_wordOf 8 = .ok (.getfield 30, 3) := dX12_wordOf_0g.2.2.2.2.2.2.1
theorem dX12_wordOf_11 : decode cX12_wordOf 11 = .ok (.arraylength, 1) := dX12_wordOf_0g.2.2.2.2.2.2.2.1
theorem dX12_wordOf_12 : decode cX12_wordOf 12 = .ok (.if_icmp .ge 114, 3) := dX12_wordOf_0g.2.2.2.2.2.2.2.2.1
theorem dX12_wordOf_15 : decode cX12_wordOf 15 = .ok (.iconst 0, 1) := dX12_wordOf_0g.2.2.2.2.2.2.2.2.2
theorem dX12_wordOf_16g : (decode cX12_wordOf 16 = .ok (.istore 5, 2)) ∧ (decode cX12_wordOf 18 = .ok (.aload_n 0, 1)) ∧ (decode cX12_wordOf 19 = .ok (.getfield 30, 3)) ∧ (decode cX12_wordOf 22 = .ok (.iload 4, 2)) ∧ (decode cX12_wordOf 24 = .ok (.iload 5, 2)) ∧ (decode cX12_wordOf 26 = .ok (.iadd, 1)) ∧ (decode cX12_wordOf 27 = .ok (.baload, 1)) ∧ (decode cX12_wordOf 28 = .ok (.bipush 32, 2)) ∧ (decode cX12_wordOf 30 = .ok (.if_icmp .eq 9, 3)) ∧ (decode cX12_wordOf 33 = .ok (.iinc 5 1, 3)) := by decide +kernel
theorem dX12_wordOf_16 : decode cX12_wordOf 16 = .ok (.istore 5, 2) := dX12_wordOf_16g.1
theorem dX12_wordOf_18 : decode cX12_wordOf 18 = .ok (.aload_n 0, 1) := dX12_wordOf_16g.2.1
theorem dX12_wordOf_19 : decode cX12_wordOf 19 = .ok (.getfield 30, 3) := dX12_wordOf_16g.2.2.1
theorem dX12_wordOf_22 : decode cX12_wordOf 22 = .ok (.iload 4, 2) := dX12_wordOf_16g.2.2.2.1
theorem dX12_wordOf_24 : decode cX12_wordOf 24 = .ok (.iload 5, 2) := dX12_wordOf_16g.2.2.2.2.1
theorem dX12_wordOf_26 : decode cX12_wordOf 26 = .ok (.iadd, 1) := dX12_wordOf_16g.2.2.2.2.2.1
theorem dX12_wordOf_27 : decode cX12_wordOf 27 = .ok (.baload, 1) := dX12_wordOf_16g.2.2.2.2.2.2.1
theorem dX12_wordOf_28 : decode cX12_wordOf 28 = .ok (.bipush 32, 2) := dX12_wordOf_16g.2.2.2.2.2.2.2.1
theorem dX12_wordOf_30 : decode cX12_wordOf 30 = .ok (.if_icmp .eq 9, 3) := dX12_wordOf_16g.2.2.2.2.2.2.2.2.1
theorem dX12_wordOf_33 : decode cX12_wordOf 33 = .ok (.iinc 5 1, 3) := dX12_wordOf_16g.2.2.2.2.2.2.2.2.2
theorem dX12_wordOf_36g : (decode cX12_wordOf 36 = .ok (.goto (-18), 3)) ∧ (decode cX12_wordOf 39 = .ok (.iload 5, 2)) ∧ (decode cX12_wordOf 41 = .ok (.iload_n 2, 1)) ∧ (decode cX12_wordOf 42 = .ok (.iload_n 1, 1)) ∧ (decode cX12_wordOf 43 = .ok (.isub, 1)) ∧ (decode cX12_wordOf 44 = .ok (.if_icmp .ne 7, 3)) ∧ (decode cX12_wordOf 47 = .ok (.iconst 1, 1)) ∧ (decode cX12_wordOf 48 = .ok (.goto 4, 3)) ∧ (decode cX12_wordOf 51 = .ok (.iconst 0, 1)) ∧ (decode cX12_wordOf 52 = .ok (.istore 6, 2)) := by decide +kernel
theorem dX12_wordOf_36 : decode cX12_wordOf 36 = .ok (.goto (-18), 3) := dX12_wordOf_36g.1
theorem dX12_wordOf_39 : decode cX12_wordOf 39 = .ok (.iload 5, 2) := dX12_wordOf_36g.2.1
theorem dX12_wordOf_41 : decode cX12_wordOf 41 = .ok (.iload_n 2, 1) := dX12_wordOf_36g.2.2.1
theorem dX12_wordOf_42 : decode cX12_wordOf 42 = .ok (.iload_n 1, 1) := dX12_wordOf_36g.2.2.2.1
theorem dX12_wordOf_43 : decode cX12_wordOf 43 = .ok (.isub, 1) := dX12_wordOf_36g.2.2.2.2.1
theorem dX12_wordOf_44 : decode cX12_wordOf 44 = .ok (.if_icmp .ne 7, 3) := dX12_wordOf_36g.2.2.2.2.2.1
theorem dX12_wordOf_47 : decode cX12_wordOf 47 = .ok (.iconst 1, 1) := dX12_wordOf_36g.2.2.2.2.2.2.1
theorem dX12_wordOf_48 : decode cX12_wordOf 48 = .ok (.goto 4, 3) := dX12_wordOf_36g.2.2.2.2.2.2.2.1
theorem dX12_wordOf_51 : decode cX12_wordOf 51 = .ok (.iconst 0, 1) := dX12_wordOf_36g.2.2.2.2.2.2.2.2.1
theorem dX12_wordOf_52 : decode cX12_wordOf 52 = .ok (.istore 6, 2) := dX12_wordOf_36g.2.2.2.2.2.2.2.2.2
theorem dX12_wordOf_54g : (decode cX12_wordOf 54 = .ok (.iconst 0, 1)) ∧ (decode cX12_wordOf 55 = .ok (.istore 7, 2)) ∧ (decode cX12_wordOf 57 = .ok (.iload 7, 2)) ∧ (decode cX12_wordOf 59 = .ok (.iload 5, 2)) ∧ (decode cX12_wordOf 61 = .ok (.if_icmp .ge 43, 3)) ∧ (decode cX12_wordOf 64 = .ok (.iload 6, 2)) ∧ (decode cX12_wordOf 66 = .ok (.ifCond .eq 38, 3)) ∧ (decode cX12_wordOf 69 = .ok (.aload_n 0, 1)) ∧ (decode cX12_wordOf 70 = .ok (.getfield 30, 3)) ∧ (decode cX12_wordOf 73 = .ok (.iload 4, 2)) := by decide +kernel
theorem dX12_wordOf_54 : decode cX12_wordOf 54 = .ok (.iconst 0, 1) := dX12_wordOf_54g.1
theorem dX12_wordOf_55 : decode cX12_wordOf 55 = .ok (.istore 7, 2) := dX12_wordOf_54g.2.1
theorem dX12_wordOf_57 : decode cX12_wordOf 57 = .ok (.iload 7, 2) := dX12_wordOf_54g.2.2.1
theorem dX12_wordOf_59 : decode cX12_wordOf 59 = .ok (.iload 5, 2) := dX12_wordOf_54g.2.2.2.1
theorem dX12_wordOf_61 : decode cX12_wordOf 61 = .ok (.if_icmp .ge 43, 3) := dX12_wordOf_54g.2.2.2.2.1
theorem dX12_wordOf_64 : decode cX12_wordOf 64 = .ok (.iload 6, 2) := dX12_wordOf_54g.2.2.2.2.2.1
theorem dX12_wordOf_66 : decode cX12_wordOf 66 = .ok (.ifCond .eq 38, 3) := dX12_wordOf_54g.2.2.2.2.2.2.1
theorem dX12_wordOf_69 : decode cX12_wordOf 69 = .ok (.aload_n 0, 1) := dX12_wordOf_54g.2.2.2.2.2.2.2.1
theorem dX12_wordOf_70 : decode cX12_wordOf 70 = .ok (.getfield 30, 3) := dX12_wordOf_54g.2.2.2.2.2.2.2.2.1
theorem dX12_wordOf_73 : decode cX12_wordOf 73 = .ok (.iload 4, 2) := dX12_wordOf_54g.2.2.2.2.2.2.2.2.2
theorem dX12_wordOf_75g : (decode cX12_wordOf 75 = .ok (.iload 7, 2)) ∧ (decode cX12_wordOf 77 = .ok (.iadd, 1)) ∧ (decode cX12_wordOf 78 = .ok (.baload, 1)) ∧ (decode cX12_wordOf 79 = .ok (.aload_n 0, 1)) ∧ (decode cX12_wordOf 80 = .ok (.getfield 34, 3)) ∧ (decode cX12_wordOf 83 = .ok (.iload_n 1, 1)) ∧ (decode cX12_wordOf 84 = .ok (.iload 7, 2)) ∧ (decode cX12_wordOf 86 = .ok (.iadd, 1)) ∧ (decode cX12_wordOf 87 = .ok (.baload, 1)) ∧ (decode cX12_wordOf 88 = .ok (.if_icmp .ne 7, 3)) := by decide +kernel
theorem dX12_wordOf_75 : decode cX12_wordOf 75 = .ok (.iload 7, 2) := dX12_wordOf_75g.1
theorem dX12_wordOf_77 : decode cX12_wordOf 77 = .ok (.iadd, 1) := dX12_wordOf_75g.2.1
theorem dX12_wordOf_78 : decode cX12_wordOf 78 = .ok (.baload, 1) := dX12_wordOf_75g.2.2.1
theorem dX12_wordOf_79 : decode cX12_wordOf 79 = .ok (.aload_n 0, 1) := dX12_wordOf_75g.2.2.2.1
theorem dX12_wordOf_80 : decode cX12_wordOf 80 = .ok (.getfield 34, 3) := dX12_wordOf_75g.2.2.2.2.1
theorem dX12_wordOf_83 : decode cX12_wordOf 83 = .ok (.iload_n 1, 1) := dX12_wordOf_75g.2.2.2.2.2.1
theorem dX12_wordOf_84 : decode cX12_wordOf 84 = .ok (.iload 7, 2) := dX12_wordOf_75g.2.2.2.2.2.2.1
theorem dX12_wordOf_86 : decode cX12_wordOf 86 = .ok (.iadd, 1) := dX12_wordOf_75g.2.2.2.2.2.2.2.1
theorem dX12_wordOf_87 : decode cX12_wordOf 87 = .ok (.baload, 1) := dX12_wordOf_75g.2.2.2.2.2.2.2.2.1
theorem dX12_wordOf_88 : decode cX12_wordOf 88 = .ok (.if_icmp .ne 7, 3) := dX12_wordOf_75g.2.2.2.2.2.2.2.2.2
theorem dX12_wordOf_91g : (decode cX12_wordOf 91 = .ok (.iconst 1, 1)) ∧ (decode cX12_wordOf 92 = .ok (.goto 4, 3)) ∧ (decode cX12_wordOf 95 = .ok (.iconst 0, 1)) ∧ (decode cX12_wordOf 96 = .ok (.istore 6, 2)) ∧ (decode cX12_wordOf 98 = .ok (.iinc 7 1, 3)) ∧ (decode cX12_wordOf 101 = .ok (.goto (-44), 3)) ∧ (decode cX12_wordOf 104 = .ok (.iload 6, 2)) ∧ (decode cX12_wordOf 106 = .ok (.ifCond .eq 5, 3)) ∧ (decode cX12_wordOf 109 = .ok (.iload_n 3, 1)) ∧ (decode cX12_wordOf 110 = .ok (.ireturn, 1)) := by decide +kernel
theorem dX12_wordOf_91 : decode cX12_wordOf 91 = .ok (.iconst 1, 1) := dX12_wordOf_91g.1
theorem dX12_wordOf_92 : decode cX12_wordOf 92 = .ok (.goto 4, 3) := dX12_wordOf_91g.2.1
theorem dX12_wordOf_95 : decode cX12_wordOf 95 = .ok (.iconst 0, 1) := dX12_wordOf_91g.2.2.1
theorem dX12_wordOf_96 : decode cX12_wordOf 96 = .ok (.istore 6, 2) := dX12_wordOf_91g.2.2.2.1
theorem dX12_wordOf_98 : decode cX12_wordOf 98 = .ok (.iinc 7 1, 3) := dX12_wordOf_91g.2.2.2.2.1
theorem dX12_wordOf_101 : decode cX12_wordOf 101 = .ok (.goto (-44), 3) := dX12_wordOf_91g.2.2.2.2.2.1
theorem dX12_wordOf_104 : decode cX12_wordOf 104 = .ok (.iload 6, 2) := dX12_wordOf_91g.2.2.2.2.2.2.1
theorem dX12_wordOf_106 : decode cX12_wordOf 106 = .ok (.ifCond .eq 5, 3) := dX12_wordOf_91g.2.2.2.2.2.2.2.1
theorem dX12_wordOf_109 : decode cX12_wordOf 109 = .ok (.iload_n 3, 1) := dX12_wordOf_91g.2.2.2.2.2.2.2.2.1
theorem dX12_wordOf_110 : decode cX12_wordOf 110 = .ok (.ireturn, 1) := dX12_wordOf_91g.2.2.2.2.2.2.2.2.2
theorem dX12_wordOf_111g : (decode cX12_wordOf 111 = .ok (.iload 4, 2)) ∧ (decode cX12_wordOf 113 = .ok (.iload 5, 2)) ∧ (decode cX12_wordOf 115 = .ok (.iconst 1, 1)) ∧ (decode cX12_wordOf 116 = .ok (.iadd, 1)) ∧ (decode cX12_wordOf 117 = .ok (.iadd, 1)) ∧ (decode cX12_wordOf 118 = .ok (.istore 4, 2)) ∧ (decode cX12_wordOf 120 = .ok (.iinc 3 1, 3)) ∧ (decode cX12_wordOf 123 = .ok (.goto (-118), 3)) ∧ (decode cX12_wordOf 126 = .ok (.iconst 0, 1)) ∧ (decode cX12_wordOf 127 = .ok (.ireturn, 1)) := by decide +kernel
theorem dX12_wordOf_111 : decode cX12_wordOf 111 = .ok (.iload 4, 2) := dX12_wordOf_111g.1
theorem dX12_wordOf_113 : decode cX12_wordOf 113 = .ok (.iload 5, 2) := dX12_wordOf_111g.2.1
theorem dX12_wordOf_115 : decode cX12_wordOf 115 = .ok (.iconst 1, 1) := dX12_wordOf_111g.2.2.1
theorem dX12_wordOf_116 : decode cX12_wordOf 116 = .ok (.iadd, 1) := dX12_wordOf_111g.2.2.2.1
theorem dX12_wordOf_117 : decode cX12_wordOf 117 = .ok (.iadd, 1) := dX12_wordOf_111g.2.2.2.2.1
theorem dX12_wordOf_118 : decode cX12_wordOf 118 = .ok (.istore 4, 2) := dX12_wordOf_111g.2.2.2.2.2.1
theorem dX12_wordOf_120 : decode cX12_wordOf 120 = .ok (.iinc 3 1, 3) := dX12_wordOf_111g.2.2.2.2.2.2.1
theorem dX12_wordOf_123 : decode cX12_wordOf 123 = .ok (.goto (-118), 3) := dX12_wordOf_111g.2.2.2.2.2.2.2.1
theorem dX12_wordOf_126 : decode cX12_wordOf 126 = .ok (.iconst 0, 1) := dX12_wordOf_111g.2.2.2.2.2.2.2.2.1
theorem dX12_wordOf_127 : decode cX12_wordOf 127 = .ok (.ireturn, 1) := dX12_wordOf_111g.2.2.2.2.2.2.2.2.2
set_option maxHeartbeats 4000000 in
set_option maxRecDepth 100000 in
theorem c_X12_wordOf (l : Launch) (E : Nat → Nat) (D : va_G) (G : th_G) (H0 : Heap) (h0 : Nat) (hG0 : G h0 = some (10, 0)) (x1 : Int32) (x2 : Int32) (hx1 : (0 : Int) ≤ x1.toInt ∧ x1.toInt ≤ 400) (hx2 : (0 : Int) ≤ x2.toInt ∧ x2.toInt ≤ 400) (fi ee : Nat) (hfi : x1.toInt = (fi : Int)) (hee : x2.toInt = (ee : Int)) (hfe : fi ≤ ee) : Met l yX12_wordOf (tb (.code yX12_wordOf cX12_wordOf 8 (some .int))) (rm 0) (va_Pc [.ref h0, .int x1, .int x2] (PR E D G H0)) (QS H0 (fun r => ∃ w : Nat, (r : Int32).toInt = (w : Int) ∧ tk_w (tB E) fi ee w)) 0 0 (fun _ => False) := by
  refine Met.ofW (cc := cX12_wordOf) (maxL := 8) (ret := (some .int)) (by decide) rfl ?_
  intro p e s m args below meth c s₁ B hml hv
  obtain ⟨hav, rfl, hI, hN, hK⟩ := hv
  have hx := B.exec
  have hb := B.bytes
  have hr := B.returns
  have hts := atoms_spec (ws := tb (.code yX12_wordOf cX12_wordOf 8 (some .int))) B.pre
  have hown : s.vm.findClass RX12 = some m.cls := findClass_of_methodNamed B.named
  have hlocks := B.notSynchronized
  have hS : va_S (fun _ => False) s.heap s.heap [] := va_S.rf
  have hl := lv_entry ([.ref h0, .int x1, .int x2]) (n := 8) (Nat.le_of_ble_eq_true rfl)
  rw [show entryFrame m args 8 = entryFrame m ([.ref h0, .int x1, .int x2] : List Value).toArray 8 from by rw [hav], lg_entry_eq]
  generalize (lg_sl ([.ref h0, .int x1, .int x2]) ++ List.replicate (8 - (lg_sl ([.ref h0, .int x1, .int x2])).length) Slot.unset).toArray = ls at hl ⊢
  have hl : lv_has ls 8 [(0, .ref h0), (1, .int x1), (2, .int x2)] := hl
  generalize hR : (headSpec (tb (.code yX12_wordOf cX12_wordOf 8 (some .int))) (rm 0)).room = R
  have hR := hR.symm
  generalize hQ : MQ below (QS s.heap (fun r => ∃ w : Nat, (r : Int32).toInt = (w : Int) ∧ tk_w (tB E) fi ee w)) args s 0 0 (fun _ => False) = QF
  have hQ := hQ.symm
  obtain ⟨q_7, hq_7, hf_7⟩ := fr_of hI hG0 7 (by decide) (kd := (7, 89)) rfl
  obtain ⟨F_7, hA_7, hP_7⟩ := om_7 hI hq_7 List.not_mem_nil
  obtain ⟨q_8, hq_8, hf_8⟩ := fr_of hI hG0 8 (by decide) (kd := (4, 400)) rfl
  obtain ⟨F_8, hA_8, hP_8⟩ := om_4 hI hq_8 List.not_mem_nil
  have J_5 : ∀ (nn : Nat) (locs : List Loc) (ls : Array Slot) (v649 : Int32) (v650 : Int32) (kk : Nat), (Int.toNat (89 - v649.toInt) = nn) → lv_has ls 8 [(4, .int v649), (3, .int v650), (0, .ref h0), (1, .int x1), (2, .int x2)] → ((0 : Int) ≤ v649.toInt ∧ v649.toInt ≤ 89) → ((1 : Int) ≤ v650.toInt ∧ v650.toInt ≤ 18) → ((0 : Int) ≤ x1.toInt ∧ x1.toInt ≤ 400) → ((0 : Int) ≤ x2.toInt ∧ x2.toInt ≤ 400) → (kk ≤ 17) → (v650.toInt = (kk : Int) + 1) → (v649.toInt = (tk_O kk : Int)) → (∀ k' : Nat, k' < kk → ¬ tk_m (tB E) fi ee k') → va_S (fun _ => False) s.heap s.heap locs → W p l e R s m args below meth c s.heap locs 0 0 QF (F0 m 5 ls []) := by
    intro nn
    induction nn using Nat.strongRecOn with
    | ind nn ih_5 =>
      intro locs ls v649 v650 kk hm hl k651 k652 k653 k654 hk17 hk3 hk4 hall hS
      have hkO : (kk < 17 ∧ tk_O kk < 89) ∨ (kk = 17 ∧ tk_O kk = 89) := wd_O hk17
      have J_57 : ∀ (nn : Nat) (locs : List Loc) (ls : Array Slot) (v655 : Int32) (v656 : Int32) (v657 : Int32) (kk : Nat) (ii : Nat), (Int.toNat (v657.toInt - v655.toInt) = nn) → lv_has ls 8 [(7, .int v655), (6, .int v656), (5, .int v657), (4, .int v649), (3, .int v650), (0, .ref h0), (1, .int x1), (2, .int x2)] → ((0 : Int) ≤ v655.toInt ∧ v655.toInt ≤ 88) → ((0 : Int) ≤ v656.toInt ∧ v656.toInt ≤ 1) → ((0 : Int) ≤ v657.toInt ∧ v657.toInt ≤ 88) → ((0 : Int) ≤ v649.toInt ∧ v649.toInt ≤ 88) → (kk < 17) → (v650.toInt = (kk : Int) + 1) → (v649.toInt = (tk_O kk : Int)) → (∀ k' : Nat, k' < kk → ¬ tk_m (tB E) fi ee k') → (v657.toInt = (tk_wl kk : Int)) → (ii ≤ tk_wl kk) → (v655.toInt = (ii : Int)) → (WM_ (tB E) fi ee kk ii (v656.toInt)) → va_S (fun _ => False) s.heap s.heap locs → W p l e R s m args below meth c s.heap locs 0 0 QF (F0 m 57 ls []) := by
        intro nn
        induction nn using Nat.strongRecOn with
        | ind nn ih_57 =>
          intro locs ls v655 v656 v657 kk ii hm hl k660 k661 k662 k663 hkk hk3 hk4 hall hk5 hii hk7 hWM hS
          obtain ⟨hw1, hw2, hw3, hw4, hw5, hw6⟩ := wd_T kk hkk
          refine lv_iload hx hb dX12_wordOf_57 (lv_at hl 0 rfl) ?_
          refine lv_iload hx hb dX12_wordOf_59 (lv_at hl 2 rfl) ?_
          refine lv_icmp_ge (tgt := 104) hx hb dX12_wordOf_61 (by decide) (fun c664 => ?_) (fun c664 => ?_)
          · skip
            have k665 := iv_le (X := v657.toInt) (Y := v655.toInt) rfl rfl c664
            refine lv_iload hx hb dX12_wordOf_104 (lv_at hl 1 rfl) ?_
            refine lv_if_eq (tgt := 111) hx hb dX12_wordOf_106 (by decide) (fun c666 => ?_) (fun c666 => ?_)
            · skip
              have k667 := iv_eq (X := v656.toInt) (Y := (0)) rfl (by decide) c666
              refine lv_iload hx hb dX12_wordOf_111 (lv_at hl 3 rfl) ?_
              refine lv_iload hx hb dX12_wordOf_113 (lv_at hl 2 rfl) ?_
              refine lv_iconst (v := 1) hx hb dX12_wordOf_115 (by decide) ?_
              refine lv_iadd hx hb dX12_wordOf_116 ?_
              refine lv_topi (fun v668 e669 => ?_)
              have tv668 : v668.toInt = v657.toInt + (1) := iv_add rfl (by decide) e669 (by omega) (by omega)
              refine lv_iadd hx hb dX12_wordOf_117 ?_
              refine lv_topi (fun v670 e671 => ?_)
              have tv670 : v670.toInt = v649.toInt + v668.toInt := iv_add rfl rfl e671 (by omega) (by omega)
              refine lv_istore (lv' := [(4, .int v670), (7, .int v655), (6, .int v656), (5, .int v657), (3, .int v650), (0, .ref h0), (1, .int x1), (2, .int x2)]) hx hb dX12_wordOf_118 hl (by decide) rfl (fun ls hl => ?_)
              obtain ⟨v672, e673⟩ : ∃ y : Int32, y = v650 + (1) := ⟨_, rfl⟩
              have tv672 : v672.toInt = v650.toInt + (1) := iv_add rfl (by decide) e673 (by omega) (by omega)
              refine lv_iinc (v := v672) (lv' := [(3, .int v672), (4, .int v670), (7, .int v655), (6, .int v656), (5, .int v657), (0, .ref h0), (1, .int x1), (2, .int x2)]) hx hb dX12_wordOf_120 hl (k := 4) rfl (by rw [e673]; rfl) (by decide) rfl (fun ls hl => ?_)
              refine lv_goto (tgt := 5) hx hb dX12_wordOf_123 (by decide) ?_
              exact ih_5 _ (by omega) locs ls v670 v672 (kk + 1) rfl (lv_sub hl [1, 0, 5, 6, 7] rfl) ⟨by omega, by omega⟩ ⟨by omega, by omega⟩ ⟨by omega, by omega⟩ ⟨by omega, by omega⟩ (by omega) (by first | omega | decide) (by first | omega | decide) (tk_nx hall (WM_.not hWM (by omega))) hS
            · skip
              have k674 := iv_ne (X := v656.toInt) (Y := (0)) rfl (by decide) c666
              refine lv_iload_n hx hb dX12_wordOf_109 rfl (lv_at hl 4 rfl) ?_
              have hpost : ∃ w : Nat, (v650 : Int32).toInt = (w : Int) ∧ tk_w (tB E) fi ee w := ⟨kk + 1, by omega, Or.inl ⟨kk, hkk, WM_.done hWM (by omega) (by omega), hall, rfl⟩⟩
              rw [hQ]
              exact W.iret (v := v650) hx hb hr (fun t ht hW => ⟨⟨v650, (), rfl, hpost, ht⟩, hS.F ht⟩) hS.2.2 dX12_wordOf_110
          · skip
            have k675 := iv_nle (X := v657.toInt) (Y := v655.toInt) rfl rfl c664
            refine lv_iload hx hb dX12_wordOf_64 (lv_at hl 1 rfl) ?_
            refine lv_if_eq (tgt := 104) hx hb dX12_wordOf_66 (by decide) (fun c676 => ?_) (fun c676 => ?_)
            · skip
              have k677 := iv_eq (X := v656.toInt) (Y := (0)) rfl (by decide) c676
              refine lv_iload hx hb dX12_wordOf_104 (lv_at hl 1 rfl) ?_
              refine lv_if_eq (tgt := 111) hx hb dX12_wordOf_106 (by decide) (fun c678 => ?_) (fun c678 => ?_)
              · skip
                have k679 := iv_eq (X := v656.toInt) (Y := (0)) rfl (by decide) c678
                refine lv_iload hx hb dX12_wordOf_111 (lv_at hl 3 rfl) ?_
                refine lv_iload hx hb dX12_wordOf_113 (lv_at hl 2 rfl) ?_
                refine lv_iconst (v := 1) hx hb dX12_wordOf_115 (by decide) ?_
                refine lv_iadd hx hb dX12_wordOf_116 ?_
                refine lv_topi (fun v680 e681 => ?_)
                have tv680 : v680.toInt = v657.toInt + (1) := iv_add rfl (by decide) e681 (by omega) (by omega)
                refine lv_iadd hx hb dX12_wordOf_117 ?_
                refine lv_topi (fun v682 e683 => ?_)
                have tv682 : v682.toInt = v649.toInt + v680.toInt := iv_add rfl rfl e683 (by omega) (by omega)
                refine lv_istore (lv' := [(4, .int v682), (7, .int v655), (6, .int v656), (5, .int v657), (3, .int v650), (0, .ref h0), (1, .int x1), (2, .int x2)]) hx hb dX12_wordOf_118 hl (by decide) rfl (fun ls hl => ?_)
                obtain ⟨v684, e685⟩ : ∃ y : Int32, y = v650 + (1) := ⟨_, rfl⟩
                have tv684 : v684.toInt = v650.toInt + (1) := iv_add rfl (by decide) e685 (by omega) (by omega)
                refine lv_iinc (v := v684) (lv' := [(3, .int v684), (4, .int v682), (7, .int v655), (6, .int v656), (5, .int v657), (0, .ref h0), (1, .int x1), (2, .int x2)]) hx hb dX12_wordOf_120 hl (k := 4) rfl (by rw [e685]; rfl) (by decide) rfl (fun ls hl => ?_)
                refine lv_goto (tgt := 5) hx hb dX12_wordOf_123 (by decide) ?_
                exact ih_5 _ (by omega) locs ls v682 v684 (kk + 1) rfl (lv_sub hl [1, 0, 5, 6, 7] rfl) ⟨by omega, by omega⟩ ⟨by omega, by omega⟩ ⟨by omega, by omega⟩ ⟨by omega, by omega⟩ (by omega) (by first | omega | decide) (by first | omega | decide) (tk_nx hall (WM_.not hWM (by omega))) hS
              · skip
                have k686 := iv_ne (X := v656.toInt) (Y := (0)) rfl (by decide) c678
                exfalso; omega
            · skip
              have k687 := iv_ne (X := v656.toInt) (Y := (0)) rfl (by decide) c676
              have hln := WM_.len hWM (by omega)
              have hw7 := hw6 ii (by omega)
              refine lv_aload_n hx hb dX12_wordOf_69 rfl (lv_at hl 5 rfl) ?_
              refine gmA hx hb hts inT12 hown hK hI List.not_mem_nil hG0 7 (by decide) (hts _ (tb_c wd_1240)) rfl rfl dX12_wordOf_70 (fun a688 hq689 hf690 => ?_)
              obtain rfl := fr.uniq (by decide) hf_7 hf690
              refine lv_iload hx hb dX12_wordOf_73 (lv_at hl 3 rfl) ?_
              refine lv_iload hx hb dX12_wordOf_75 (lv_at hl 0 rfl) ?_
              refine lv_iadd hx hb dX12_wordOf_77 ?_
              refine lv_topi (fun v691 e692 => ?_)
              have tv691 : v691.toInt = v649.toInt + v655.toInt := iv_add rfl rfl e692 (by omega) (by omega)
              refine va_bald hx hb hK (th_one hA_7) 0 3 rfl rfl (iv_in (X := v691.toInt) rfl (by omega) (by omega)) dX12_wordOf_78 ?_
              refine lv_topi (fun v693 e694 => ?_)
              have k695 := wd_at hP_7 e694 (p := (tk_O kk + ii)) (by omega) (by omega)
              refine lv_aload_n hx hb dX12_wordOf_79 rfl (lv_at hl 5 rfl) ?_
              refine gmA hx hb hts inT12 hown hK hI List.not_mem_nil hG0 8 (by decide) (hts _ (tb_c wd_1241)) rfl rfl dX12_wordOf_80 (fun a696 hq697 hf698 => ?_)
              obtain rfl := fr.uniq (by decide) hf_8 hf698
              refine lv_iload_n hx hb dX12_wordOf_83 rfl (lv_at hl 6 rfl) ?_
              refine lv_iload hx hb dX12_wordOf_84 (lv_at hl 0 rfl) ?_
              refine lv_iadd hx hb dX12_wordOf_86 ?_
              refine lv_topi (fun v699 e700 => ?_)
              have tv699 : v699.toInt = x1.toInt + v655.toInt := iv_add rfl rfl e700 (by omega) (by omega)
              refine va_bald hx hb hK (th_one hA_8) 0 3 rfl rfl (iv_in (X := v699.toInt) rfl (by omega) (by omega)) dX12_wordOf_87 ?_
              refine lv_topi (fun v701 e702 => ?_)
              have k703 := tp_at hP_8 e702 (p := (fi + ii)) (by omega) (by omega)
              have k704 := iv_lo v693
              have k705 := iv_hi v693
              have k706 := iv_lo v701
              have k707 := iv_hi v701
              refine lv_icmp_ne (tgt := 95) hx hb dX12_wordOf_88 (by decide) (fun c708 => ?_) (fun c708 => ?_)
              · skip
                have k709 := iv_ne (X := v693.toInt) (Y := v701.toInt) rfl rfl c708
                refine lv_iconst (v := 0) hx hb dX12_wordOf_95 (by decide) ?_
                refine lv_istore (lv' := [(6, .int 0), (7, .int v655), (5, .int v657), (4, .int v649), (3, .int v650), (0, .ref h0), (1, .int x1), (2, .int x2)]) hx hb dX12_wordOf_96 hl (by decide) rfl (fun ls hl => ?_)
                obtain ⟨v710, e711⟩ : ∃ y : Int32, y = v655 + (1) := ⟨_, rfl⟩
                have tv710 : v710.toInt = v655.toInt + (1) := iv_add rfl (by decide) e711 (by omega) (by omega)
                refine lv_iinc (v := v710) (lv' := [(7, .int v710), (6, .int 0), (5, .int v657), (4, .int v649), (3, .int v650), (0, .ref h0), (1, .int x1), (2, .int x2)]) hx hb dX12_wordOf_98 hl (k := 1) rfl (by rw [e711]; rfl) (by decide) rfl (fun ls hl => ?_)
                refine lv_goto (tgt := 57) hx hb dX12_wordOf_101 (by decide) ?_
                exact ih_57 _ (by omega) locs ls v710 0 v657 kk (ii + 1) rfl (lv_sub hl [0, 1, 2, 3, 4, 5, 6, 7] rfl) ⟨by omega, by omega⟩ ⟨by decide, by decide⟩ ⟨by omega, by omega⟩ ⟨by omega, by omega⟩ (hkk) (by omega) (by omega) (hall) (by omega) (by omega) (by first | omega | decide) ((by rw [show (0 : Int32).toInt = 0 from by decide]; exact WM_.dif (by omega) (by omega))) hS
              · skip
                have k712 := iv_eq (X := v693.toInt) (Y := v701.toInt) rfl rfl c708
                refine lv_iconst (v := 1) hx hb dX12_wordOf_91 (by decide) ?_
                refine lv_goto (tgt := 96) hx hb dX12_wordOf_92 (by decide) ?_
                refine lv_istore (lv' := [(6, .int 1), (7, .int v655), (5, .int v657), (4, .int v649), (3, .int v650), (0, .ref h0), (1, .int x1), (2, .int x2)]) hx hb dX12_wordOf_96 hl (by decide) rfl (fun ls hl => ?_)
                obtain ⟨v713, e714⟩ : ∃ y : Int32, y = v655 + (1) := ⟨_, rfl⟩
                have tv713 : v713.toInt = v655.toInt + (1) := iv_add rfl (by decide) e714 (by omega) (by omega)
                refine lv_iinc (v := v713) (lv' := [(7, .int v713), (6, .int 1), (5, .int v657), (4, .int v649), (3, .int v650), (0, .ref h0), (1, .int x1), (2, .int x2)]) hx hb dX12_wordOf_98 hl (k := 1) rfl (by rw [e714]; rfl) (by decide) rfl (fun ls hl => ?_)
                refine lv_goto (tgt := 57) hx hb dX12_wordOf_101 (by decide) ?_
                exact ih_57 _ (by omega) locs ls v713 1 v657 kk (ii + 1) rfl (lv_sub hl [0, 1, 2, 3, 4, 5, 6, 7] rfl) ⟨by omega, by omega⟩ ⟨by decide, by decide⟩ ⟨by omega, by omega⟩ ⟨by omega, by omega⟩ (hkk) (by omega) (by omega) (hall) (by omega) (by omega) (by first | omega | decide) ((by rw [show (1 : Int32).toInt = 1 from by decide]; exact WM_.yes hWM (by omega) (by omega))) hS
      have J_18 : ∀ (nn : Nat) (locs : List Loc) (ls : Array Slot) (v715 : Int32) (kk : Nat) (nq : Nat), (Int.toNat (88 - v715.toInt) = nn) → lv_has ls 8 [(5, .int v715), (4, .int v649), (3, .int v650), (0, .ref h0), (1, .int x1), (2, .int x2)] → ((0 : Int) ≤ v715.toInt ∧ v715.toInt ≤ 88) → ((0 : Int) ≤ v649.toInt ∧ v649.toInt ≤ 88) → (kk < 17) → (v650.toInt = (kk : Int) + 1) → (v649.toInt = (tk_O kk : Int)) → (∀ k' : Nat, k' < kk → ¬ tk_m (tB E) fi ee k') → (nq ≤ tk_wl kk) → (v715.toInt = (nq : Int)) → va_S (fun _ => False) s.heap s.heap locs → W p l e R s m args below meth c s.heap locs 0 0 QF (F0 m 18 ls []) := by
        intro nn
        induction nn using Nat.strongRecOn with
        | ind nn ih_18 =>
          intro locs ls v715 kk nq hm hl k718 k719 hkk hk3 hk4 hall hnn hk5 hS
          obtain ⟨hw1, hw2, hw3, hw4, hw5, hw6⟩ := wd_T kk hkk
          have hw18 := wd_e18 hkk hnn
          refine lv_aload_n hx hb dX12_wordOf_18 rfl (lv_at hl 3 rfl) ?_
          refine gmA hx hb hts inT12 hown hK hI List.not_mem_nil hG0 7 (by decide) (hts _ (tb_c wd_1240)) rfl rfl dX12_wordOf_19 (fun a720 hq721 hf722 => ?_)
          obtain rfl := fr.uniq (by decide) hf_7 hf722
          refine lv_iload hx hb dX12_wordOf_22 (lv_at hl 1 rfl) ?_
          refine lv_iload hx hb dX12_wordOf_24 (lv_at hl 0 rfl) ?_
          refine lv_iadd hx hb dX12_wordOf_26 ?_
          refine lv_topi (fun v723 e724 => ?_)
          have tv723 : v723.toInt = v649.toInt + v715.toInt := iv_add rfl rfl e724 (by omega) (by omega)
          refine va_bald hx hb hK (th_one hA_7) 0 3 rfl rfl (iv_in (X := v723.toInt) rfl (by omega) (by omega)) dX12_wordOf_27 ?_
          refine lv_topi (fun v725 e726 => ?_)
          have k727 := wd_at hP_7 e726 (p := (tk_O kk + nq)) (by omega) (by omega)
          refine lv_bipush (v := 32) hx hb dX12_wordOf_28 (by decide) ?_
          have k728 := iv_lo v725
          have k729 := iv_hi v725
          refine lv_icmp_eq (tgt := 39) hx hb dX12_wordOf_30 (by decide) (fun c730 => ?_) (fun c730 => ?_)
          · skip
            have k731 := iv_eq (X := v725.toInt) (Y := (32)) rfl (by decide) c730
            refine lv_iload hx hb dX12_wordOf_39 (lv_at hl 0 rfl) ?_
            refine lv_iload_n hx hb dX12_wordOf_41 rfl (lv_at hl 5 rfl) ?_
            refine lv_iload_n hx hb dX12_wordOf_42 rfl (lv_at hl 4 rfl) ?_
            refine lv_isub hx hb dX12_wordOf_43 ?_
            refine lv_topi (fun v732 e733 => ?_)
            have tv732 : v732.toInt = x2.toInt - x1.toInt := iv_sub rfl rfl e733 (by omega) (by omega)
            refine lv_icmp_ne (tgt := 51) hx hb dX12_wordOf_44 (by decide) (fun c734 => ?_) (fun c734 => ?_)
            · skip
              have k735 := iv_ne (X := v715.toInt) (Y := v732.toInt) rfl rfl c734
              refine lv_iconst (v := 0) hx hb dX12_wordOf_51 (by decide) ?_
              refine lv_istore (lv' := [(6, .int 0), (5, .int v715), (4, .int v649), (3, .int v650), (0, .ref h0), (1, .int x1), (2, .int x2)]) hx hb dX12_wordOf_52 hl (by decide) rfl (fun ls hl => ?_)
              refine lv_iconst (v := 0) hx hb dX12_wordOf_54 (by decide) ?_
              refine lv_istore (lv' := [(7, .int 0), (6, .int 0), (5, .int v715), (4, .int v649), (3, .int v650), (0, .ref h0), (1, .int x1), (2, .int x2)]) hx hb dX12_wordOf_55 hl (by decide) rfl (fun ls hl => ?_)
              have zl : (0 : Int32).toInt = 0 := by decide
              exact J_57 _ locs ls 0 0 v715 kk 0 rfl (lv_sub hl [0, 1, 2, 3, 4, 5, 6, 7] rfl) ⟨by decide, by decide⟩ ⟨by decide, by decide⟩ ⟨by omega, by omega⟩ ⟨by omega, by omega⟩ (hkk) (by omega) (by omega) (hall) (by omega) (by omega) (by first | omega | decide) ((by rw [show (0 : Int32).toInt = 0 from by decide]; exact WM_.no (by omega))) hS
            · skip
              have k736 := iv_eq (X := v715.toInt) (Y := v732.toInt) rfl rfl c734
              refine lv_iconst (v := 1) hx hb dX12_wordOf_47 (by decide) ?_
              refine lv_goto (tgt := 52) hx hb dX12_wordOf_48 (by decide) ?_
              refine lv_istore (lv' := [(6, .int 1), (5, .int v715), (4, .int v649), (3, .int v650), (0, .ref h0), (1, .int x1), (2, .int x2)]) hx hb dX12_wordOf_52 hl (by decide) rfl (fun ls hl => ?_)
              refine lv_iconst (v := 0) hx hb dX12_wordOf_54 (by decide) ?_
              refine lv_istore (lv' := [(7, .int 0), (6, .int 1), (5, .int v715), (4, .int v649), (3, .int v650), (0, .ref h0), (1, .int x1), (2, .int x2)]) hx hb dX12_wordOf_55 hl (by decide) rfl (fun ls hl => ?_)
              have zl : (0 : Int32).toInt = 0 := by decide
              exact J_57 _ locs ls 0 1 v715 kk 0 rfl (lv_sub hl [0, 1, 2, 3, 4, 5, 6, 7] rfl) ⟨by decide, by decide⟩ ⟨by decide, by decide⟩ ⟨by omega, by omega⟩ ⟨by omega, by omega⟩ (hkk) (by omega) (by omega) (hall) (by omega) (by omega) (by first | omega | decide) ((by rw [show (1 : Int32).toInt = 1 from by decide]; exact WM_.ini (by omega))) hS
          · skip
            have k737 := iv_ne (X := v725.toInt) (Y := (32)) rfl (by decide) c730
            obtain ⟨v738, e739⟩ : ∃ y : Int32, y = v715 + (1) := ⟨_, rfl⟩
            have tv738 : v738.toInt = v715.toInt + (1) := iv_add rfl (by decide) e739 (by omega) (by omega)
            refine lv_iinc (v := v738) (lv' := [(5, .int v738), (4, .int v649), (3, .int v650), (0, .ref h0), (1, .int x1), (2, .int x2)]) hx hb dX12_wordOf_33 hl (k := 0) rfl (by rw [e739]; rfl) (by decide) rfl (fun ls hl => ?_)
            refine lv_goto (tgt := 18) hx hb dX12_wordOf_36 (by decide) ?_
            exact ih_18 _ (by omega) locs ls v738 kk (nq + 1) rfl (lv_sub hl [0, 1, 2, 3, 4, 5] rfl) ⟨by omega, by omega⟩ ⟨by omega, by omega⟩ (by omega) (by omega) (by omega) (hall) (by omega) (by first | omega | decide) hS
      refine lv_iload hx hb dX12_wordOf_5 (lv_at hl 0 rfl) ?_
      refine lv_aload_n hx hb dX12_wordOf_7 rfl (lv_at hl 2 rfl) ?_
      refine gmA hx hb hts inT12 hown hK hI List.not_mem_nil hG0 7 (by decide) (hts _ (tb_c wd_1240)) rfl rfl dX12_wordOf_8 (fun a740 hq741 hf742 => ?_)
      obtain rfl := fr.uniq (by decide) hf_7 hf742
      refine va_alen hx hb hK (th_one hA_7) 0 3 rfl (v := 89) rfl (show Int32.ofNat 89 = (89 : Int32) from by decide) dX12_wordOf_11 ?_
      refine lv_icmp_ge (tgt := 126) hx hb dX12_wordOf_12 (by decide) (fun c743 => ?_) (fun c743 => ?_)
      · skip
        have k744 := iv_le (X := (89)) (Y := v649.toInt) (by decide) rfl c743
        refine lv_iconst (v := 0) hx hb dX12_wordOf_126 (by decide) ?_
        have hpost : ∃ w : Nat, (0 : Int32).toInt = (w : Int) ∧ tk_w (tB E) fi ee w := ⟨0, by decide, Or.inr ⟨fun k z => hall k (by omega), rfl⟩⟩
        rw [hQ]
        exact W.iret (v := 0) hx hb hr (fun t ht hW => ⟨⟨0, (), rfl, hpost, ht⟩, hS.F ht⟩) hS.2.2 dX12_wordOf_127
      · skip
        have k745 := iv_nle (X := (89)) (Y := v649.toInt) (by decide) rfl c743
        have hkk : kk < 17 := by omega
        refine lv_iconst (v := 0) hx hb dX12_wordOf_15 (by decide) ?_
        refine lv_istore (lv' := [(5, .int 0), (4, .int v649), (3, .int v650), (0, .ref h0), (1, .int x1), (2, .int x2)]) hx hb dX12_wordOf_16 hl (by decide) rfl (fun ls hl => ?_)
        have zl : (0 : Int32).toInt = 0 := by decide
        exact J_18 _ locs ls 0 kk 0 rfl (lv_sub hl [0, 1, 2, 3, 4, 5] rfl) ⟨by decide, by decide⟩ ⟨by omega, by omega⟩ (by omega) (by omega) (by omega) (hall) (by omega) (by first | omega | decide) hS
  refine lv_iconst (v := 1) hx hb dX12_wordOf_0 (by decide) ?_
  refine lv_istore_n (lv' := [(3, .int 1), (0, .ref h0), (1, .int x1), (2, .int x2)]) hx hb dX12_wordOf_1 rfl hl (by decide) rfl (fun ls hl => ?_)
  refine lv_iconst (v := 0) hx hb dX12_wordOf_2 (by decide) ?_
  refine lv_istore (lv' := [(4, .int 0), (3, .int 1), (0, .ref h0), (1, .int x1), (2, .int x2)]) hx hb dX12_wordOf_3 hl (by decide) rfl (fun ls hl => ?_)
  have zl : (0 : Int32).toInt = 0 := by decide
  exact J_5 _ [] ls 0 1 0 rfl (lv_sub hl [0, 1, 2, 3, 4] rfl) ⟨by decide, by decide⟩ ⟨by decide, by decide⟩ ⟨by omega, by omega⟩ ⟨by omega, by omega⟩ (by omega) (by first | omega | decide) (by first | omega | decide) (fun _ z => absurd z (Nat.not_lt_zero _)) hS
