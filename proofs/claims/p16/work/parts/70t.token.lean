theorem wp_12 : Cond.selects RX3 yX3_addToken yX3_addToken ∈ TB := tv 12 (by decide +kernel) (by decide +kernel)
theorem wd_647 : (Cond.methodLink RX3 (49 : Nat) Lib.Math.min.name) ∈ TB := tw 647 (by decide +kernel) (by decide +kernel)
theorem wd_653 : (Cond.methodLink RX3 (79 : Nat) yX3_isLetter) ∈ TB := tw 653 (by decide +kernel) (by decide +kernel)
theorem wd_654 : (Jvm.Cond.static yX3_isLetter) ∈ TB := tw 654 (by decide +kernel) (by decide +kernel)
theorem wd_655 : (Cond.code yX3_isLetter cX3_isLetter 1 (Option.some Jvm.ClassFile.FieldType.boolean)) ∈ TB := tw 655 (by decide +kernel) (by decide +kernel)
theorem wd_656 : (Cond.methodLink RX3 (83 : Nat) yX3_findWord) ∈ TB := tw 656 (by decide +kernel) (by decide +kernel)
theorem wd_657 : (Jvm.Cond.static yX3_findWord) ∈ TB := tw 657 (by decide +kernel) (by decide +kernel)
theorem wd_658 : (Cond.code yX3_findWord cX3_findWord 7 (Option.some Jvm.ClassFile.FieldType.int)) ∈ TB := tw 658 (by decide +kernel) (by decide +kernel)
theorem wd_660 : (Cond.methodLink RX3 (91 : Nat) yJ0_charAt_5068e) ∈ TB := tw 660 (by decide +kernel) (by decide +kernel)
theorem wd_661 : (Jvm.Cond.instanceMethod yJ0_charAt_5068e) ∈ TB := tw 661 (by decide +kernel) (by decide +kernel)
theorem wd_662 : (Cond.selects RJ0 yJ0_charAt_5068e yJ0_charAt_5068e) ∈ TB := tw 662 (by decide +kernel) (by decide +kernel)
theorem wd_663 : (Cond.code yJ0_charAt_5068e cJ0_charAt_5068e 2 (Option.some Jvm.ClassFile.FieldType.char)) ∈ TB := tw 663 (by decide +kernel) (by decide +kernel)
theorem wd_700 : (Cond.methodLink RX3 (62 : Nat) yX3_addToken) ∈ TB := tw 700 (by decide +kernel) (by decide +kernel)
theorem wd_702 : (Jvm.Cond.instanceMethod yX3_addToken) ∈ TB := tw 702 (by decide +kernel) (by decide +kernel)
theorem wd_703 : (Cond.code yX3_addToken cX3_addToken 4 (Option.none : Option Jvm.ClassFile.FieldType)) ∈ TB := tw 703 (by decide +kernel) (by decide +kernel)
theorem wd_704 : (Cond.methodLink RX3 (86 : Nat) yX3_isDigit) ∈ TB := tw 704 (by decide +kernel) (by decide +kernel)
theorem wd_705 : (Jvm.Cond.static yX3_isDigit) ∈ TB := tw 705 (by decide +kernel) (by decide +kernel)
theorem wd_706 : (Cond.code yX3_isDigit cX3_isDigit 1 (Option.some Jvm.ClassFile.FieldType.boolean)) ∈ TB := tw 706 (by decide +kernel) (by decide +kernel)
theorem dX3_findWord_0g : (decode cX3_findWord 0 = .ok (.iconst 0, 1)) ∧ (decode cX3_findWord 1 = .ok (.istore_n 3, 1)) ∧ (decode cX3_findWord 2 = .ok (.iload_n 3, 1)) ∧ (decode cX3_findWord 3 = .ok (.bipush 17, 2)) ∧ (decode cX3_findWord 5 = .ok (.if_icmp .ge 101, 3)) ∧ (decode cX3_findWord 8 = .ok (.iload_n 2, 1)) ∧ (decode cX3_findWord 9 = .ok (.iload_n 1, 1)) ∧ (decode cX3_findWord 10 = .ok (.isub, 1)) ∧ (decode cX3_findWord 11 = .ok (.bipush 8, 2)) ∧ (decode cX3_findWord 13 = .ok (.if_icmp .ge 7, 3)) := by decide +kernel
theorem dX3_findWord_0 : decode cX3_findWord 0 = .ok (.iconst 0, 1) := dX3_findWord_0g.1
theorem dX3_findWord_1 : decode cX3_findWord 1 = .ok (.istore_n 3, 1) := dX3_findWord_0g.2.1
theorem dX3_findWord_2 : decode cX3_findWord 2 = .ok (.iload_n 3, 1) := dX3_findWord_0g.2.2.1
theorem dX3_findWord_3 : decode cX3_findWord 3 = .ok (.bipush 17, 2) := dX3_findWord_0g.2.2.2.1
theorem dX3_findWord_5 : decode cX3_findWord 5 = .ok (.if_icmp .ge 101, 3) := dX3_findWord_0g.2.2.2.2.1
theorem dX3_findWord_8 : decode cX3_findWord 8 = .ok (.iload_n 2, 1) := dX3_findWord_0g.2.2.2.2.2.1
theorem dX3_findWord_9 : decode cX3_findWord 9 = .ok (.iload_n 1, 1) := dX3_findWord_0g.2.2.2.2.2.2.1
theorem dX3_findWord_10 : decode cX3_findWord 10 = .ok (.isub, 1) := dX3_findWord_0g.2.2.2.2.2.2.2.1
theorem dX3_findWord_11 : decode cX3_findWord 11 = .ok (.bipush 8, 2) := dX3_findWord_0g.2.2.2.2.2.2.2.2.1
theorem dX3_findWord_13 : decode cX3_findWord 13 = .ok (.if_icmp .ge 7, 3) := dX3_findWord_0g.2.2.2.2.2.2.2.2.2
theorem dX3_findWord_16g : (decode cX3_findWord 16 = .ok (.iconst 1, 1)) ∧ (decode cX3_findWord 17 = .ok (.goto 4, 3)) ∧ (decode cX3_findWord 20 = .ok (.iconst 0, 1)) ∧ (decode cX3_findWord 21 = .ok (.istore 4, 2)) ∧ (decode cX3_findWord 23 = .ok (.iconst 0, 1)) ∧ (decode cX3_findWord 24 = .ok (.istore 5, 2)) ∧ (decode cX3_findWord 26 = .ok (.iload 4, 2)) ∧ (decode cX3_findWord 28 = .ok (.ifCond .eq 61, 3)) ∧ (decode cX3_findWord 31 = .ok (.iload 5, 2)) ∧ (decode cX3_findWord 33 = .ok (.bipush 8, 2)) := by decide +kernel
theorem dX3_findWord_16 : decode cX3_findWord 16 = .ok (.iconst 1, 1) := dX3_findWord_16g.1
theorem dX3_findWord_17 : decode cX3_findWord 17 = .ok (.goto 4, 3) := dX3_findWord_16g.2.1
theorem dX3_findWord_20 : decode cX3_findWord 20 = .ok (.iconst 0, 1) := dX3_findWord_16g.2.2.1
theorem dX3_findWord_21 : decode cX3_findWord 21 = .ok (.istore 4, 2) := dX3_findWord_16g.2.2.2.1
theorem dX3_findWord_23 : decode cX3_findWord 23 = .ok (.iconst 0, 1) := dX3_findWord_16g.2.2.2.2.1
theorem dX3_findWord_24 : decode cX3_findWord 24 = .ok (.istore 5, 2) := dX3_findWord_16g.2.2.2.2.2.1
theorem dX3_findWord_26 : decode cX3_findWord 26 = .ok (.iload 4, 2) := dX3_findWord_16g.2.2.2.2.2.2.1
theorem dX3_findWord_28 : decode cX3_findWord 28 = .ok (.ifCond .eq 61, 3) := dX3_findWord_16g.2.2.2.2.2.2.2.1
theorem dX3_findWord_31 : decode cX3_findWord 31 = .ok (.iload 5, 2) := dX3_findWord_16g.2.2.2.2.2.2.2.2.1
theorem dX3_findWord_33 : decode cX3_findWord 33 = .ok (.bipush 8, 2) := dX3_findWord_16g.2.2.2.2.2.2.2.2.2
theorem dX3_findWord_35g : (decode cX3_findWord 35 = .ok (.if_icmp .ge 54, 3)) ∧ (decode cX3_findWord 38 = .ok (.iload_n 1, 1)) ∧ (decode cX3_findWord 39 = .ok (.iload 5, 2)) ∧ (decode cX3_findWord 41 = .ok (.iadd, 1)) ∧ (decode cX3_findWord 42 = .ok (.iload_n 2, 1)) ∧ (decode cX3_findWord 43 = .ok (.if_icmp .ge 12, 3)) ∧ (decode cX3_findWord 46 = .ok (.aload_n 0, 1)) ∧ (decode cX3_findWord 47 = .ok (.iload_n 1, 1)) ∧ (decode cX3_findWord 48 = .ok (.iload 5, 2)) ∧ (decode cX3_findWord 50 = .ok (.iadd, 1)) := by decide +kernel
theorem dX3_findWord_35 : decode cX3_findWord 35 = .ok (.if_icmp .ge 54, 3) := dX3_findWord_35g.1
theorem dX3_findWord_38 : decode cX3_findWord 38 = .ok (.iload_n 1, 1) := dX3_findWord_35g.2.1
theorem dX3_findWord_39 : decode cX3_findWord 39 = .ok (.iload 5, 2) := dX3_findWord_35g.2.2.1
theorem dX3_findWord_41 : decode cX3_findWord 41 = .ok (.iadd, 1) := dX3_findWord_35g.2.2.2.1
theorem dX3_findWord_42 : decode cX3_findWord 42 = .ok (.iload_n 2, 1) := dX3_findWord_35g.2.2.2.2.1
theorem dX3_findWord_43 : decode cX3_findWord 43 = .ok (.if_icmp .ge 12, 3) := dX3_findWord_35g.2.2.2.2.2.1
theorem dX3_findWord_46 : decode cX3_findWord 46 = .ok (.aload_n 0, 1) := dX3_findWord_35g.2.2.2.2.2.2.1
theorem dX3_findWord_47 : decode cX3_findWord 47 = .ok (.iload_n 1, 1) := dX3_findWord_35g.2.2.2.2.2.2.2.1
theorem dX3_findWord_48 : decode cX3_findWord 48 = .ok (.iload 5, 2) := dX3_findWord_35g.2.2.2.2.2.2.2.2.1
theorem dX3_findWord_50 : decode cX3_findWord 50 = .ok (.iadd, 1) := dX3_findWord_35g.2.2.2.2.2.2.2.2.2
theorem dX3_findWord_51g : (decode cX3_findWord 51 = .ok (.iaload, 1)) ∧ (decode cX3_findWord 52 = .ok (.goto 5, 3)) ∧ (decode cX3_findWord 55 = .ok (.bipush 32, 2)) ∧ (decode cX3_findWord 57 = .ok (.istore 6, 2)) ∧ (decode cX3_findWord 59 = .ok (.iload 6, 2)) ∧ (decode cX3_findWord 61 = .ok (.ldc 89, 2)) ∧ (decode cX3_findWord 63 = .ok (.iload_n 3, 1)) ∧ (decode cX3_findWord 64 = .ok (.bipush 8, 2)) ∧ (decode cX3_findWord 66 = .ok (.imul, 1)) ∧ (decode cX3_findWord 67 = .ok (.iload 5, 2)) := by decide +kernel
theorem dX3_findWord_51 : decode cX3_findWord 51 = .ok (.iaload, 1) := dX3_findWord_51g.1
theorem dX3_findWord_52 : decode cX3_findWord 52 = .ok (.goto 5, 3) := dX3_findWord_51g.2.1
theorem dX3_findWord_55 : decode cX3_findWord 55 = .ok (.bipush 32, 2) := dX3_findWord_51g.2.2.1
theorem dX3_findWord_57 : decode cX3_findWord 57 = .ok (.istore 6, 2) := dX3_findWord_51g.2.2.2.1
theorem dX3_findWord_59 : decode cX3_findWord 59 = .ok (.iload 6, 2) := dX3_findWord_51g.2.2.2.2.1
theorem dX3_findWord_61 : decode cX3_findWord 61 = .ok (.ldc 89, 2) := dX3_findWord_51g.2.2.2.2.2.1
theorem dX3_findWord_63 : decode cX3_findWord 63 = .ok (.iload_n 3, 1) := dX3_findWord_51g.2.2.2.2.2.2.1
theorem dX3_findWord_64 : decode cX3_findWord 64 = .ok (.bipush 8, 2) := dX3_findWord_51g.2.2.2.2.2.2.2.1
theorem dX3_findWord_66 : decode cX3_findWord 66 = .ok (.imul, 1) := dX3_findWord_51g.2.2.2.2.2.2.2.2.1
theorem dX3_findWord_67 : decode cX3_findWord 67 = .ok (.iload 5, 2) := dX3_findWord_51g.2.2.2.2.2.2.2.2.2
theorem dX3_findWord_69g : (decode cX3_findWord 69 = .ok (.iadd, 1)) ∧ (decode cX3_findWord 70 = .ok (.invokevirtual 91, 3)) ∧ (decode cX3_findWord 73 = .ok (.if_icmp .ne 7, 3)) ∧ (decode cX3_findWord 76 = .ok (.iconst 1, 1)) ∧ (decode cX3_findWord 77 = .ok (.goto 4, 3)) ∧ (decode cX3_findWord 80 = .ok (.iconst 0, 1)) ∧ (decode cX3_findWord 81 = .ok (.istore 4, 2)) ∧ (decode cX3_findWord 83 = .ok (.iinc 5 1, 3)) ∧ (decode cX3_findWord 86 = .ok (.goto (-60), 3)) ∧ (decode cX3_findWord 89 = .ok (.iload 4, 2)) := by decide +kernel
theorem dX3_findWord_69 : decode cX3_findWord 69 = .ok (.iadd, 1) := dX3_findWord_69g.1
theorem dX3_findWord_70 : decode cX3_findWord 70 = .ok (.invokevirtual 91, 3) := dX3_findWord_69g.2.1
theorem dX3_findWord_73 : decode cX3_findWord 73 = .ok (.if_icmp .ne 7, 3) := dX3_findWord_69g.2.2.1
theorem dX3_findWord_76 : decode cX3_findWord 76 = .ok (.iconst 1, 1) := dX3_findWord_69g.2.2.2.1
theorem dX3_findWord_77 : decode cX3_findWord 77 = .ok (.goto 4, 3) := dX3_findWord_69g.2.2.2.2.1
theorem dX3_findWord_80 : decode cX3_findWord 80 = .ok (.iconst 0, 1) := dX3_findWord_69g.2.2.2.2.2.1
theorem dX3_findWord_81 : decode cX3_findWord 81 = .ok (.istore 4, 2) := dX3_findWord_69g.2.2.2.2.2.2.1
theorem dX3_findWord_83 : decode cX3_findWord 83 = .ok (.iinc 5 1, 3) := dX3_findWord_69g.2.2.2.2.2.2.2.1
theorem dX3_findWord_86 : decode cX3_findWord 86 = .ok (.goto (-60), 3) := dX3_findWord_69g.2.2.2.2.2.2.2.2.1
theorem dX3_findWord_89 : decode cX3_findWord 89 = .ok (.iload 4, 2) := dX3_findWord_69g.2.2.2.2.2.2.2.2.2
theorem dX3_findWord_91g : (decode cX3_findWord 91 = .ok (.ifCond .eq 9, 3)) ∧ (decode cX3_findWord 94 = .ok (.sipush 256, 3)) ∧ (decode cX3_findWord 97 = .ok (.iload_n 3, 1)) ∧ (decode cX3_findWord 98 = .ok (.iadd, 1)) ∧ (decode cX3_findWord 99 = .ok (.ireturn, 1)) ∧ (decode cX3_findWord 100 = .ok (.iinc 3 1, 3)) ∧ (decode cX3_findWord 103 = .ok (.goto (-101), 3)) ∧ (decode cX3_findWord 106 = .ok (.bipush (-3), 2)) ∧ (decode cX3_findWord 108 = .ok (.ireturn, 1)) := by decide +kernel
theorem dX3_findWord_91 : decode cX3_findWord 91 = .ok (.ifCond .eq 9, 3) := dX3_findWord_91g.1
theorem dX3_findWord_94 : decode cX3_findWord 94 = .ok (.sipush 256, 3) := dX3_findWord_91g.2.1
theorem dX3_findWord_97 : decode cX3_findWord 97 = .ok (.iload_n 3, 1) := dX3_findWord_91g.2.2.1
theorem dX3_findWord_98 : decode cX3_findWord 98 = .ok (.iadd, 1) := dX3_findWord_91g.2.2.2.1
theorem dX3_findWord_99 : decode cX3_findWord 99 = .ok (.ireturn, 1) := dX3_findWord_91g.2.2.2.2.1
theorem dX3_findWord_100 : decode cX3_findWord 100 = .ok (.iinc 3 1, 3) := dX3_findWord_91g.2.2.2.2.2.1
theorem dX3_findWord_103 : decode cX3_findWord 103 = .ok (.goto (-101), 3) := dX3_findWord_91g.2.2.2.2.2.2.1
theorem dX3_findWord_106 : decode cX3_findWord 106 = .ok (.bipush (-3), 2) := dX3_findWord_91g.2.2.2.2.2.2.2.1
theorem dX3_findWord_108 : decode cX3_findWord 108 = .ok (.ireturn, 1) := dX3_findWord_91g.2.2.2.2.2.2.2.2
set_option maxHeartbeats 4000000 in
set_option maxRecDepth 100000 in
theorem c_X3_findWord (l : Launch) (E : Nat → Nat) (D : va_G) (G : th_G) (adK adV : Nat → Nat) (H0 : Heap) (p0 : Nat) (hp0 : G p0 = some (16, 400)) (x1 x2 : Int32) (hx1 : 0 ≤ x1.toInt ∧ x1.toInt ≤ 400) (hx2 : 0 ≤ x2.toInt ∧ x2.toInt ≤ 400) (fi ee : Nat) (hfi : x1.toInt = (fi : Int)) (hee : x2.toInt = (ee : Int)) (hfe : fi ≤ ee) (hlt : ∀ j : Nat, fi ≤ j → j < ee → tk_lt (tC E p0 j)) : Met l yX3_findWord (tb (.code yX3_findWord cX3_findWord 7 (some .int))) (rm 4) (va_Pc [.ref p0, .int x1, .int x2] (PST E D G adK adV H0)) (QS H0 (fun r => ∃ w : Nat, tk_w (tC E p0) fi ee w ∧ ((w = 0 ∧ (r : Int32).toInt = -3) ∨ (1 ≤ w ∧ (r : Int32).toInt = 255 + (w : Int))))) 0 0 (fun _ => False) := by
  refine Met.ofW (cc := cX3_findWord) (maxL := 7) (ret := (some .int)) (by decide) rfl ?_
  intro p e s m args below meth c s₁ B hml hv
  obtain ⟨hav, rfl, ⟨hI, hN, hK⟩, hWS⟩ := hv
  have hx := B.exec
  have hb := B.bytes
  have hr := B.returns
  have hts := atoms_spec (ws := tb (.code yX3_findWord cX3_findWord 7 (some .int))) B.pre
  have hown : s.vm.findClass RX3 = some m.cls := findClass_of_methodNamed B.named
  have hlocks := B.notSynchronized
  have hS : va_S (fun _ => False) s.heap s.heap [] := va_S.rf
  have hl := lv_entry ([.ref p0, .int x1, .int x2]) (n := 7) (Nat.le_of_ble_eq_true rfl)
  rw [show entryFrame m args 7 = entryFrame m ([.ref p0, .int x1, .int x2] : List Value).toArray 7 from by rw [hav], lg_entry_eq]
  generalize (lg_sl ([.ref p0, .int x1, .int x2]) ++ List.replicate (7 - (lg_sl ([.ref p0, .int x1, .int x2])).length) Slot.unset).toArray = ls at hl ⊢
  have hl : lv_has ls 7 [(0, .ref p0), (1, .int x1), (2, .int x2)] := hl
  generalize hR : (headSpec (tb (.code yX3_findWord cX3_findWord 7 (some .int))) (rm 4)).room = R
  have hR := hR.symm
  generalize hQ : MQ below (QS s.heap (fun r => ∃ w : Nat, tk_w (tC E p0) fi ee w ∧ ((w = 0 ∧ (r : Int32).toInt = -3) ∨ (1 ≤ w ∧ (r : Int32).toInt = 255 + (w : Int))))) args s 0 0 (fun _ => False) = QF
  have hQ := hQ.symm
  have J_2 : ∀ (nn : Nat) (locs : List Loc) (ls : Array Slot) (v507 : Int32) (kk : Nat), (Int.toNat (17 - v507.toInt) = nn) → lv_has ls 7 [(3, .int v507), (0, .ref p0), (1, .int x1), (2, .int x2)] → ((0 : Int) ≤ v507.toInt ∧ v507.toInt ≤ 17) → ((0 : Int) ≤ x1.toInt ∧ x1.toInt ≤ 400) → ((0 : Int) ≤ x2.toInt ∧ x2.toInt ≤ 400) → (kk ≤ 17) → (v507.toInt = (kk : Int)) → (∀ k' : Nat, k' < kk → ¬ tk_m (tC E p0) fi ee k') → va_S (fun _ => False) s.heap s.heap locs → W p l e R s m args below meth c s.heap locs 0 0 QF (F0 m 2 ls []) := by
    intro nn
    induction nn using Nat.strongRecOn with
    | ind nn ih_2 =>
      intro locs ls v507 kk hm hl k508 k509 k510 hk17 hk3 hall hS
      have J_26 : ∀ (nn : Nat) (locs : List Loc) (ls : Array Slot) (v511 : Int32) (v512 : Int32) (kk : Nat) (nq : Nat), (Int.toNat (8 - v511.toInt) = nn) → lv_has ls 7 [(5, .int v511), (4, .int v512), (3, .int v507), (0, .ref p0), (1, .int x1), (2, .int x2)] → ((0 : Int) ≤ v511.toInt ∧ v511.toInt ≤ 8) → ((0 : Int) ≤ v512.toInt ∧ v512.toInt ≤ 1) → ((0 : Int) ≤ v507.toInt ∧ v507.toInt ≤ 16) → (kk < 17) → (v507.toInt = (kk : Int)) → (∀ k' : Nat, k' < kk → ¬ tk_m (tC E p0) fi ee k') → (v511.toInt = (nq : Int)) → (WC (tC E p0) fi ee kk nq (v512.toInt)) → va_S (fun _ => False) s.heap s.heap locs → W p l e R s m args below meth c s.heap locs 0 0 QF (F0 m 26 ls []) := by
        intro nn
        induction nn using Nat.strongRecOn with
        | ind nn ih_26 =>
          intro locs ls v511 v512 kk nq hm hl k514 k515 k516 hkk hk3 hall hk5 hWC hS
          refine lv_iload hx hb dX3_findWord_26 (lv_at hl 1 rfl) ?_
          refine lv_if_eq (tgt := 89) hx hb dX3_findWord_28 (by decide) (fun c517 => ?_) (fun c517 => ?_)
          · skip
            have k518 := iv_eq (X := v512.toInt) (Y := (0)) rfl (by decide) c517
            refine lv_iload hx hb dX3_findWord_89 (lv_at hl 1 rfl) ?_
            refine lv_if_eq (tgt := 100) hx hb dX3_findWord_91 (by decide) (fun c519 => ?_) (fun c519 => ?_)
            · skip
              have k520 := iv_eq (X := v512.toInt) (Y := (0)) rfl (by decide) c519
              obtain ⟨v521, e522⟩ : ∃ y : Int32, y = v507 + (1) := ⟨_, rfl⟩
              have tv521 : v521.toInt = v507.toInt + (1) := iv_add rfl (by decide) e522 (by omega) (by omega)
              refine lv_iinc (v := v521) (lv' := [(3, .int v521), (5, .int v511), (4, .int v512), (0, .ref p0), (1, .int x1), (2, .int x2)]) hx hb dX3_findWord_100 hl (k := 2) rfl (by rw [e522]; rfl) (by decide) rfl (fun ls hl => ?_)
              refine lv_goto (tgt := 2) hx hb dX3_findWord_103 (by decide) ?_
              exact ih_2 _ (by omega) locs ls v521 (kk + 1) rfl (lv_sub hl [0, 3, 4, 5] rfl) ⟨by omega, by omega⟩ ⟨by omega, by omega⟩ ⟨by omega, by omega⟩ (by omega) (by first | omega | decide) (tk_nx hall (WC.not hWC (by omega))) hS
            · skip
              have k523 := iv_ne (X := v512.toInt) (Y := (0)) rfl (by decide) c519
              exfalso; omega
          · skip
            have k524 := iv_ne (X := v512.toInt) (Y := (0)) rfl (by decide) c517
            refine lv_iload hx hb dX3_findWord_31 (lv_at hl 0 rfl) ?_
            refine lv_bipush (v := 8) hx hb dX3_findWord_33 (by decide) ?_
            refine lv_icmp_ge (tgt := 89) hx hb dX3_findWord_35 (by decide) (fun c525 => ?_) (fun c525 => ?_)
            · skip
              have k526 := iv_le (X := (8)) (Y := v511.toInt) (by decide) rfl c525
              refine lv_iload hx hb dX3_findWord_89 (lv_at hl 1 rfl) ?_
              refine lv_if_eq (tgt := 100) hx hb dX3_findWord_91 (by decide) (fun c527 => ?_) (fun c527 => ?_)
              · skip
                have k528 := iv_eq (X := v512.toInt) (Y := (0)) rfl (by decide) c527
                exfalso; omega
              · skip
                have k529 := iv_ne (X := v512.toInt) (Y := (0)) rfl (by decide) c527
                refine lv_sipush (v := 256) hx hb dX3_findWord_94 (by decide) ?_
                refine lv_iload_n hx hb dX3_findWord_97 rfl (lv_at hl 2 rfl) ?_
                refine lv_iadd hx hb dX3_findWord_98 ?_
                refine lv_topi (fun v530 e531 => ?_)
                have tv530 : v530.toInt = (256) + v507.toInt := iv_add (by decide) rfl e531 (by omega) (by omega)
                have hpost : ∃ w : Nat, tk_w (tC E p0) fi ee w ∧ ((w = 0 ∧ (v530 : Int32).toInt = -3) ∨ (1 ≤ w ∧ (v530 : Int32).toInt = 255 + (w : Int))) := ⟨kk + 1, Or.inl ⟨kk, hkk, WC.done hWC hkk (by omega) (by omega) hfe hlt, hall, rfl⟩, Or.inr ⟨by omega, by omega⟩⟩
                rw [hQ]
                exact W.iret (v := v530) hx hb hr (fun t ht hW => ⟨⟨v530, (), rfl, hpost, ht⟩, hS.F ht⟩) hS.2.2 dX3_findWord_99
            · skip
              have k532 := iv_nle (X := (8)) (Y := v511.toInt) (by decide) rfl c525
              refine lv_iload_n hx hb dX3_findWord_38 rfl (lv_at hl 4 rfl) ?_
              refine lv_iload hx hb dX3_findWord_39 (lv_at hl 0 rfl) ?_
              refine lv_iadd hx hb dX3_findWord_41 ?_
              refine lv_topi (fun v533 e534 => ?_)
              have tv533 : v533.toInt = x1.toInt + v511.toInt := iv_add rfl rfl e534 (by omega) (by omega)
              refine lv_iload_n hx hb dX3_findWord_42 rfl (lv_at hl 5 rfl) ?_
              refine lv_icmp_ge (tgt := 55) hx hb dX3_findWord_43 (by decide) (fun c535 => ?_) (fun c535 => ?_)
              · skip
                have k536 := iv_le (X := x2.toInt) (Y := v533.toInt) rfl rfl c535
                refine lv_bipush (v := 32) hx hb dX3_findWord_55 (by decide) ?_
                refine lv_istore (lv' := [(6, .int 32), (5, .int v511), (4, .int v512), (3, .int v507), (0, .ref p0), (1, .int x1), (2, .int x2)]) hx hb dX3_findWord_57 hl (by decide) rfl (fun ls hl => ?_)
                refine lv_iload hx hb dX3_findWord_59 (lv_at hl 0 rfl) ?_
                refine va_ldcS hx hb hown hWS.2.2.2 dX3_findWord_61 ?_
                refine lv_iload_n hx hb dX3_findWord_63 rfl (lv_at hl 3 rfl) ?_
                refine lv_bipush (v := 8) hx hb dX3_findWord_64 (by decide) ?_
                refine lv_imul hx hb dX3_findWord_66 ?_
                refine lv_topi (fun v537 e538 => ?_)
                have tv537 : v537.toInt = v507.toInt * (8) := iv_mul rfl (by decide) e538 (by omega) (by omega)
                refine lv_iload hx hb dX3_findWord_67 (lv_at hl 1 rfl) ?_
                refine lv_iadd hx hb dX3_findWord_69 ?_
                refine lv_topi (fun v539 e540 => ?_)
                have tv539 : v539.toInt = v537.toInt + v511.toInt := iv_add rfl rfl e540 (by omega) (by omega)
                refine sw_V (As := [.int v539]) (rest := [.int 32]) (n := 1) (d := 3) ⟨hx, hb, hml, hown, hts⟩ (c_J0_charAt_5068e l adK adV s.heap v539 ⟨by omega, by omega⟩) wd_660 wd_661 wd_662 wd_16 wd_663 (by decide +kernel) ⟨by rw [hR]; exact Nat.le_of_ble_eq_true rfl, by rw [hR]; exact Nat.le_of_ble_eq_true rfl⟩ hN hWS hS rfl hl.1 rfl (Nat.le_of_ble_eq_true rfl) dX3_findWord_70 ⟨Nat.zero_le _, Nat.zero_le _⟩ (fun r541 locs hp hS => ?_)
                have hnr := hp
                have k542 : r541.toInt = w_8 (8 * kk + nq) := w8_at hp.2 (by omega)
                have k543 := iv_lo r541
                have k544 := iv_hi r541
                refine lv_icmp_ne (tgt := 80) hx hb dX3_findWord_73 (by decide) (fun c545 => ?_) (fun c545 => ?_)
                · skip
                  have k546 := iv_ne (X := (32)) (Y := r541.toInt) (by decide) rfl c545
                  refine lv_iconst (v := 0) hx hb dX3_findWord_80 (by decide) ?_
                  refine lv_istore (lv' := [(4, .int 0), (6, .int 32), (5, .int v511), (3, .int v507), (0, .ref p0), (1, .int x1), (2, .int x2)]) hx hb dX3_findWord_81 hl (by decide) rfl (fun ls hl => ?_)
                  obtain ⟨v547, e548⟩ : ∃ y : Int32, y = v511 + (1) := ⟨_, rfl⟩
                  have tv547 : v547.toInt = v511.toInt + (1) := iv_add rfl (by decide) e548 (by omega) (by omega)
                  refine lv_iinc (v := v547) (lv' := [(5, .int v547), (4, .int 0), (6, .int 32), (3, .int v507), (0, .ref p0), (1, .int x1), (2, .int x2)]) hx hb dX3_findWord_83 hl (k := 2) rfl (by rw [e548]; rfl) (by decide) rfl (fun ls hl => ?_)
                  refine lv_goto (tgt := 26) hx hb dX3_findWord_86 (by decide) ?_
                  exact ih_26 _ (by omega) locs ls v547 0 kk (nq + 1) rfl (lv_sub hl [0, 1, 3, 4, 5, 6] rfl) ⟨by omega, by omega⟩ ⟨by decide, by decide⟩ ⟨by omega, by omega⟩ (by omega) (by first | omega | decide) (hall) (by first | omega | decide) ((by rw [show (0 : Int32).toInt = 0 from by decide]; exact WC.dif (v := (32)) hkk (by omega) (by first | (rw [sgn_out (by omega)]; done) | (rw [sgn_out (by omega)]; omega)) (by omega))) hS
                · skip
                  have k549 := iv_eq (X := (32)) (Y := r541.toInt) (by decide) rfl c545
                  refine lv_iconst (v := 1) hx hb dX3_findWord_76 (by decide) ?_
                  refine lv_goto (tgt := 81) hx hb dX3_findWord_77 (by decide) ?_
                  refine lv_istore (lv' := [(4, .int 1), (6, .int 32), (5, .int v511), (3, .int v507), (0, .ref p0), (1, .int x1), (2, .int x2)]) hx hb dX3_findWord_81 hl (by decide) rfl (fun ls hl => ?_)
                  obtain ⟨v550, e551⟩ : ∃ y : Int32, y = v511 + (1) := ⟨_, rfl⟩
                  have tv550 : v550.toInt = v511.toInt + (1) := iv_add rfl (by decide) e551 (by omega) (by omega)
                  refine lv_iinc (v := v550) (lv' := [(5, .int v550), (4, .int 1), (6, .int 32), (3, .int v507), (0, .ref p0), (1, .int x1), (2, .int x2)]) hx hb dX3_findWord_83 hl (k := 2) rfl (by rw [e551]; rfl) (by decide) rfl (fun ls hl => ?_)
                  refine lv_goto (tgt := 26) hx hb dX3_findWord_86 (by decide) ?_
                  exact ih_26 _ (by omega) locs ls v550 1 kk (nq + 1) rfl (lv_sub hl [0, 1, 3, 4, 5, 6] rfl) ⟨by omega, by omega⟩ ⟨by decide, by decide⟩ ⟨by omega, by omega⟩ (by omega) (by first | omega | decide) (hall) (by first | omega | decide) ((by rw [show (1 : Int32).toInt = 1 from by decide]; exact WC.yes (v := (32)) hWC (by omega) (by first | (rw [sgn_out (by omega)]; done) | (rw [sgn_out (by omega)]; omega)) (by omega))) hS
              · skip
                have k552 := iv_nle (X := x2.toInt) (Y := v533.toInt) rfl rfl c535
                refine lv_aload_n hx hb dX3_findWord_46 rfl (lv_at hl 3 rfl) ?_
                refine lv_iload_n hx hb dX3_findWord_47 rfl (lv_at hl 4 rfl) ?_
                refine lv_iload hx hb dX3_findWord_48 (lv_at hl 0 rfl) ?_
                refine lv_iadd hx hb dX3_findWord_50 ?_
                refine lv_topi (fun v553 e554 => ?_)
                have tv553 : v553.toInt = x1.toInt + v511.toInt := iv_add rfl rfl e554 (by omega) (by omega)
                obtain ⟨F555, hA556, hP557⟩ := op_16 hI hp0 List.not_mem_nil
                refine th_iald hx hb hK hA556 0 rfl (iv_in (X := v553.toInt) rfl (by omega) (by omega)) dX3_findWord_51 (fun v558 e559 => ?_)
                have k560 := tc_at hP557 e559 (p := fi + nq) (by omega) (by omega)
                refine lv_goto (tgt := 57) hx hb dX3_findWord_52 (by decide) ?_
                refine lv_istore (lv' := [(6, .int v558), (5, .int v511), (4, .int v512), (3, .int v507), (0, .ref p0), (1, .int x1), (2, .int x2)]) hx hb dX3_findWord_57 hl (by decide) rfl (fun ls hl => ?_)
                refine lv_iload hx hb dX3_findWord_59 (lv_at hl 0 rfl) ?_
                refine va_ldcS hx hb hown hWS.2.2.2 dX3_findWord_61 ?_
                refine lv_iload_n hx hb dX3_findWord_63 rfl (lv_at hl 3 rfl) ?_
                refine lv_bipush (v := 8) hx hb dX3_findWord_64 (by decide) ?_
                refine lv_imul hx hb dX3_findWord_66 ?_
                refine lv_topi (fun v561 e562 => ?_)
                have tv561 : v561.toInt = v507.toInt * (8) := iv_mul rfl (by decide) e562 (by omega) (by omega)
                refine lv_iload hx hb dX3_findWord_67 (lv_at hl 1 rfl) ?_
                refine lv_iadd hx hb dX3_findWord_69 ?_
                refine lv_topi (fun v563 e564 => ?_)
                have tv563 : v563.toInt = v561.toInt + v511.toInt := iv_add rfl rfl e564 (by omega) (by omega)
                refine sw_V (As := [.int v563]) (rest := [.int v558]) (n := 1) (d := 3) ⟨hx, hb, hml, hown, hts⟩ (c_J0_charAt_5068e l adK adV s.heap v563 ⟨by omega, by omega⟩) wd_660 wd_661 wd_662 wd_16 wd_663 (by decide +kernel) ⟨by rw [hR]; exact Nat.le_of_ble_eq_true rfl, by rw [hR]; exact Nat.le_of_ble_eq_true rfl⟩ hN hWS hS rfl hl.1 rfl (Nat.le_of_ble_eq_true rfl) dX3_findWord_70 ⟨Nat.zero_le _, Nat.zero_le _⟩ (fun r565 locs hp hS => ?_)
                have hnr := hp
                have k566 : r565.toInt = w_8 (8 * kk + nq) := w8_at hp.2 (by omega)
                have k567 := iv_lo r565
                have k568 := iv_hi r565
                refine lv_icmp_ne (tgt := 80) hx hb dX3_findWord_73 (by decide) (fun c569 => ?_) (fun c569 => ?_)
                · skip
                  have k570 := iv_ne (X := v558.toInt) (Y := r565.toInt) rfl rfl c569
                  refine lv_iconst (v := 0) hx hb dX3_findWord_80 (by decide) ?_
                  refine lv_istore (lv' := [(4, .int 0), (6, .int v558), (5, .int v511), (3, .int v507), (0, .ref p0), (1, .int x1), (2, .int x2)]) hx hb dX3_findWord_81 hl (by decide) rfl (fun ls hl => ?_)
                  obtain ⟨v571, e572⟩ : ∃ y : Int32, y = v511 + (1) := ⟨_, rfl⟩
                  have tv571 : v571.toInt = v511.toInt + (1) := iv_add rfl (by decide) e572 (by omega) (by omega)
                  refine lv_iinc (v := v571) (lv' := [(5, .int v571), (4, .int 0), (6, .int v558), (3, .int v507), (0, .ref p0), (1, .int x1), (2, .int x2)]) hx hb dX3_findWord_83 hl (k := 2) rfl (by rw [e572]; rfl) (by decide) rfl (fun ls hl => ?_)
                  refine lv_goto (tgt := 26) hx hb dX3_findWord_86 (by decide) ?_
                  exact ih_26 _ (by omega) locs ls v571 0 kk (nq + 1) rfl (lv_sub hl [0, 1, 3, 4, 5, 6] rfl) ⟨by omega, by omega⟩ ⟨by decide, by decide⟩ ⟨by omega, by omega⟩ (by omega) (by first | omega | decide) (hall) (by first | omega | decide) ((by rw [show (0 : Int32).toInt = 0 from by decide]; exact WC.dif (v := v558.toInt) hkk (by omega) (by first | (rw [sgn_in (by omega)]; done) | (rw [sgn_in (by omega)]; omega)) (by omega))) hS
                · skip
                  have k573 := iv_eq (X := v558.toInt) (Y := r565.toInt) rfl rfl c569
                  refine lv_iconst (v := 1) hx hb dX3_findWord_76 (by decide) ?_
                  refine lv_goto (tgt := 81) hx hb dX3_findWord_77 (by decide) ?_
                  refine lv_istore (lv' := [(4, .int 1), (6, .int v558), (5, .int v511), (3, .int v507), (0, .ref p0), (1, .int x1), (2, .int x2)]) hx hb dX3_findWord_81 hl (by decide) rfl (fun ls hl => ?_)
                  obtain ⟨v574, e575⟩ : ∃ y : Int32, y = v511 + (1) := ⟨_, rfl⟩
                  have tv574 : v574.toInt = v511.toInt + (1) := iv_add rfl (by decide) e575 (by omega) (by omega)
                  refine lv_iinc (v := v574) (lv' := [(5, .int v574), (4, .int 1), (6, .int v558), (3, .int v507), (0, .ref p0), (1, .int x1), (2, .int x2)]) hx hb dX3_findWord_83 hl (k := 2) rfl (by rw [e575]; rfl) (by decide) rfl (fun ls hl => ?_)
                  refine lv_goto (tgt := 26) hx hb dX3_findWord_86 (by decide) ?_
                  exact ih_26 _ (by omega) locs ls v574 1 kk (nq + 1) rfl (lv_sub hl [0, 1, 3, 4, 5, 6] rfl) ⟨by omega, by omega⟩ ⟨by decide, by decide⟩ ⟨by omega, by omega⟩ (by omega) (by first | omega | decide) (hall) (by first | omega | decide) ((by rw [show (1 : Int32).toInt = 1 from by decide]; exact WC.yes (v := v558.toInt) hWC (by omega) (by first | (rw [sgn_in (by omega)]; done) | (rw [sgn_in (by omega)]; omega)) (by omega))) hS
      refine lv_iload_n hx hb dX3_findWord_2 rfl (lv_at hl 0 rfl) ?_
      refine lv_bipush (v := 17) hx hb dX3_findWord_3 (by decide) ?_
      refine lv_icmp_ge (tgt := 106) hx hb dX3_findWord_5 (by decide) (fun c576 => ?_) (fun c576 => ?_)
      · skip
        have k577 := iv_le (X := (17)) (Y := v507.toInt) (by decide) rfl c576
        refine lv_bipush (v := (-3)) hx hb dX3_findWord_106 (by decide) ?_
        have hpost : ∃ w : Nat, tk_w (tC E p0) fi ee w ∧ ((w = 0 ∧ ((-3) : Int32).toInt = -3) ∨ (1 ≤ w ∧ ((-3) : Int32).toInt = 255 + (w : Int))) := ⟨0, Or.inr ⟨fun k z => hall k (by omega), rfl⟩, Or.inl ⟨rfl, by decide⟩⟩
        rw [hQ]
        exact W.iret (v := (-3)) hx hb hr (fun t ht hW => ⟨⟨(-3), (), rfl, hpost, ht⟩, hS.F ht⟩) hS.2.2 dX3_findWord_108
      · skip
        have k578 := iv_nle (X := (17)) (Y := v507.toInt) (by decide) rfl c576
        refine lv_iload_n hx hb dX3_findWord_8 rfl (lv_at hl 3 rfl) ?_
        refine lv_iload_n hx hb dX3_findWord_9 rfl (lv_at hl 2 rfl) ?_
        refine lv_isub hx hb dX3_findWord_10 ?_
        refine lv_topi (fun v579 e580 => ?_)
        have tv579 : v579.toInt = x2.toInt - x1.toInt := iv_sub rfl rfl e580 (by omega) (by omega)
        refine lv_bipush (v := 8) hx hb dX3_findWord_11 (by decide) ?_
        refine lv_icmp_ge (tgt := 20) hx hb dX3_findWord_13 (by decide) (fun c581 => ?_) (fun c581 => ?_)
        · skip
          have k582 := iv_le (X := (8)) (Y := v579.toInt) (by decide) rfl c581
          refine lv_iconst (v := 0) hx hb dX3_findWord_20 (by decide) ?_
          refine lv_istore (lv' := [(4, .int 0), (3, .int v507), (0, .ref p0), (1, .int x1), (2, .int x2)]) hx hb dX3_findWord_21 hl (by decide) rfl (fun ls hl => ?_)
          refine lv_iconst (v := 0) hx hb dX3_findWord_23 (by decide) ?_
          refine lv_istore (lv' := [(5, .int 0), (4, .int 0), (3, .int v507), (0, .ref p0), (1, .int x1), (2, .int x2)]) hx hb dX3_findWord_24 hl (by decide) rfl (fun ls hl => ?_)
          have zl : (0 : Int32).toInt = 0 := by decide
          exact J_26 _ locs ls 0 0 kk 0 rfl (lv_sub hl [0, 1, 2, 3, 4, 5] rfl) ⟨by decide, by decide⟩ ⟨by decide, by decide⟩ ⟨by omega, by omega⟩ (by omega) (by first | omega | decide) (hall) (by first | omega | decide) ((by rw [show (0 : Int32).toInt = 0 from by decide]; exact WC.no (by omega) (by omega))) hS
        · skip
          have k583 := iv_nle (X := (8)) (Y := v579.toInt) (by decide) rfl c581
          refine lv_iconst (v := 1) hx hb dX3_findWord_16 (by decide) ?_
          refine lv_goto (tgt := 21) hx hb dX3_findWord_17 (by decide) ?_
          refine lv_istore (lv' := [(4, .int 1), (3, .int v507), (0, .ref p0), (1, .int x1), (2, .int x2)]) hx hb dX3_findWord_21 hl (by decide) rfl (fun ls hl => ?_)
          refine lv_iconst (v := 0) hx hb dX3_findWord_23 (by decide) ?_
          refine lv_istore (lv' := [(5, .int 0), (4, .int 1), (3, .int v507), (0, .ref p0), (1, .int x1), (2, .int x2)]) hx hb dX3_findWord_24 hl (by decide) rfl (fun ls hl => ?_)
          have zl : (0 : Int32).toInt = 0 := by decide
          exact J_26 _ locs ls 0 1 kk 0 rfl (lv_sub hl [0, 1, 2, 3, 4, 5] rfl) ⟨by decide, by decide⟩ ⟨by decide, by decide⟩ ⟨by omega, by omega⟩ (by omega) (by first | omega | decide) (hall) (by first | omega | decide) ((by rw [show (1 : Int32).toInt = 1 from by decide]; exact WC.ini (by omega))) hS
  refine lv_iconst (v := 0) hx hb dX3_findWord_0 (by decide) ?_
  refine lv_istore_n (lv' := [(3, .int 0), (0, .ref p0), (1, .int x1), (2, .int x2)]) hx hb dX3_findWord_1 rfl hl (by decide) rfl (fun ls hl => ?_)
  have zl : (0 : Int32).toInt = 0 := by decide
  exact J_2 _ [] ls 0 0 rfl (lv_sub hl [0, 1, 2, 3] rfl) ⟨by decide, by decide⟩ ⟨by omega, by omega⟩ ⟨by omega, by omega⟩ (by omega) (by first | omega | decide) (fun _ z => absurd z (Nat.not_lt_zero _)) hS
theorem dX3_addToken_0g : (decode cX3_addToken 0 = .ok (.aload_n 0, 1)) ∧ (decode cX3_addToken 1 = .ok (.getfield 30, 3)) ∧ (decode cX3_addToken 4 = .ok (.aload_n 0, 1)) ∧ (decode cX3_addToken 5 = .ok (.getfield 21, 3)) ∧ (decode cX3_addToken 8 = .ok (.arraylength, 1)) ∧ (decode cX3_addToken 9 = .ok (.if_icmp .ge 43, 3)) ∧ (decode cX3_addToken 12 = .ok (.aload_n 0, 1)) ∧ (decode cX3_addToken 13 = .ok (.getfield 21, 3)) ∧ (decode cX3_addToken 16 = .ok (.aload_n 0, 1)) ∧ (decode cX3_addToken 17 = .ok (.getfield 30, 3)) := by decide +kernel
theorem dX3_addToken_0 : decode cX3_addToken 0 = .ok (.aload_n 0, 1) := dX3_addToken_0g.1
theorem dX3_addToken_1 : decode cX3_addToken 1 = .ok (.getfield 30, 3) := dX3_addToken_0g.2.1
theorem dX3_addToken_4 : decode cX3_addToken 4 = .ok (.aload_n 0, 1) := dX3_addToken_0g.2.2.1
theorem dX3_addToken_5 : decode cX3_addToken 5 = .ok (.getfield 21, 3) := dX3_addToken_0g.2.2.2.1
theorem dX3_addToken_8 : decode cX3_addToken 8 = .ok (.arraylength, 1) := dX3_addToken_0g.2.2.2.2.1
theorem dX3_addToken_9 : decode cX3_addToken 9 = .ok (.if_icmp .ge 43, 3) := dX3_addToken_0g.2.2.2.2.2.1
theorem dX3_addToken_12 : decode cX3_addToken 12 = .ok (.aload_n 0, 1) := dX3_addToken_0g.2.2.2.2.2.2.1
theorem dX3_addToken_13 : decode cX3_addToken 13 = .ok (.getfield 21, 3) := dX3_addToken_0g.2.2.2.2.2.2.2.1
theorem dX3_addToken_16 : decode cX3_addToken 16 = .ok (.aload_n 0, 1) := dX3_addToken_0g.2.2.2.2.2.2.2.2.1
theorem dX3_addToken_17 : decode cX3_addToken 17 = .ok (.getfield 30, 3) := dX3_addToken_0g.2.2.2.2.2.2.2.2.2
theorem dX3_addToken_20g : (decode cX3_addToken 20 = .ok (.iload_n 1, 1)) ∧ (decode cX3_addToken 21 = .ok (.iastore, 1)) ∧ (decode cX3_addToken 22 = .ok (.aload_n 0, 1)) ∧ (decode cX3_addToken 23 = .ok (.getfield 24, 3)) ∧ (decode cX3_addToken 26 = .ok (.aload_n 0, 1)) ∧ (decode cX3_addToken 27 = .ok (.getfield 30, 3)) ∧ (decode cX3_addToken 30 = .ok (.iload_n 2, 1)) ∧ (decode cX3_addToken 31 = .ok (.iastore, 1)) ∧ (decode cX3_addToken 32 = .ok (.aload_n 0, 1)) ∧ (decode cX3_addToken 33 = .ok (.getfield 27, 3)) := by decide +kernel
theorem dX3_addToken_20 : decode cX3_addToken 20 = .ok (.iload_n 1, 1) := dX3_addToken_20g.1
theorem dX3_addToken_21 : decode cX3_addToken 21 = .ok (.iastore, 1) := dX3_addToken_20g.2.1
theorem dX3_addToken_22 : decode cX3_addToken 22 = .ok (.aload_n 0, 1) := dX3_addToken_20g.2.2.1
theorem dX3_addToken_23 : decode cX3_addToken 23 = .ok (.getfield 24, 3) := dX3_addToken_20g.2.2.2.1
theorem dX3_addToken_26 : decode cX3_addToken 26 = .ok (.aload_n 0, 1) := dX3_addToken_20g.2.2.2.2.1
theorem dX3_addToken_27 : decode cX3_addToken 27 = .ok (.getfield 30, 3) := dX3_addToken_20g.2.2.2.2.2.1
theorem dX3_addToken_30 : decode cX3_addToken 30 = .ok (.iload_n 2, 1) := dX3_addToken_20g.2.2.2.2.2.2.1
theorem dX3_addToken_31 : decode cX3_addToken 31 = .ok (.iastore, 1) := dX3_addToken_20g.2.2.2.2.2.2.2.1
theorem dX3_addToken_32 : decode cX3_addToken 32 = .ok (.aload_n 0, 1) := dX3_addToken_20g.2.2.2.2.2.2.2.2.1
theorem dX3_addToken_33 : decode cX3_addToken 33 = .ok (.getfield 27, 3) := dX3_addToken_20g.2.2.2.2.2.2.2.2.2
theorem dX3_addToken_36g : (decode cX3_addToken 36 = .ok (.aload_n 0, 1)) ∧ (decode cX3_addToken 37 = .ok (.getfield 30, 3)) ∧ (decode cX3_addToken 40 = .ok (.iload_n 3, 1)) ∧ (decode cX3_addToken 41 = .ok (.iastore, 1)) ∧ (decode cX3_addToken 42 = .ok (.aload_n 0, 1)) ∧ (decode cX3_addToken 43 = .ok (.dup, 1)) ∧ (decode cX3_addToken 44 = .ok (.getfield 30, 3)) ∧ (decode cX3_addToken 47 = .ok (.iconst 1, 1)) ∧ (decode cX3_addToken 48 = .ok (.iadd, 1)) ∧ (decode cX3_addToken 49 = .ok (.putfield 30, 3)) := by decide +kernel
theorem dX3_addToken_36 : decode cX3_addToken 36 = .ok (.aload_n 0, 1) := dX3_addToken_36g.1
theorem dX3_addToken_37 : decode cX3_addToken 37 = .ok (.getfield 30, 3) := dX3_addToken_36g.2.1
theorem dX3_addToken_40 : decode cX3_addToken 40 = .ok (.iload_n 3, 1) := dX3_addToken_36g.2.2.1
theorem dX3_addToken_41 : decode cX3_addToken 41 = .ok (.iastore, 1) := dX3_addToken_36g.2.2.2.1
theorem dX3_addToken_42 : decode cX3_addToken 42 = .ok (.aload_n 0, 1) := dX3_addToken_36g.2.2.2.2.1
theorem dX3_addToken_43 : decode cX3_addToken 43 = .ok (.dup, 1) := dX3_addToken_36g.2.2.2.2.2.1
theorem dX3_addToken_44 : decode cX3_addToken 44 = .ok (.getfield 30, 3) := dX3_addToken_36g.2.2.2.2.2.2.1
theorem dX3_addToken_47 : decode cX3_addToken 47 = .ok (.iconst 1, 1) := dX3_addToken_36g.2.2.2.2.2.2.2.1
theorem dX3_addToken_48 : decode cX3_addToken 48 = .ok (.iadd, 1) := dX3_addToken_36g.2.2.2.2.2.2.2.2.1
theorem dX3_addToken_49 : decode cX3_addToken 49 = .ok (.putfield 30, 3) := dX3_addToken_36g.2.2.2.2.2.2.2.2.2
theorem dX3_addToken_52 : decode cX3_addToken 52 = .ok (.return_, 1) := by decide +kernel
set_option maxHeartbeats 4000000 in
set_option maxRecDepth 100000 in
theorem c_X3_addToken (l : Launch) (E : Nat → Nat) (D : va_G) (G : th_G) (h0 : Nat) (hG0 : G h0 = some (7, 12)) (x1 : Int32) (x2 : Int32) (x3 : Int32) (ft fp fn : Nat → Int32) (tt : Nat) (htt : tt ≤ 400) : Met l yX3_addToken (tb (.code yX3_addToken cX3_addToken 4 none)) (rm 0) (va_Pc [.ref h0, .int x1, .int x2, .int x3] (PCx E D G (fun H => RT E D G h0 ft fp fn tt H))) (QCv E D G (fun H => ∃ ft' fp' fn' : Nat → Int32, RT E D G h0 ft' fp' fn' (tt + 1) H ∧ AT ft fp fn ft' fp' fn' tt x1 x2 x3)) 0 0 (th_A G) := by
  refine Met.ofW (cc := cX3_addToken) (maxL := 4) (ret := none) (by decide) rfl ?_
  intro p e s m args below meth c s₁ B hml hv
  obtain ⟨hav, ⟨hI, hN, hK⟩, hX⟩ := hv
  have hx := B.exec
  have hb := B.bytes
  have hr := B.returns
  have hts := atoms_spec (ws := tb (.code yX3_addToken cX3_addToken 4 none)) B.pre
  have hown : s.vm.findClass RX3 = some m.cls := findClass_of_methodNamed B.named
  have hlocks := B.notSynchronized
  have hS : va_S (th_A G) s.heap s.heap [] := va_S.rf
  have hl := lv_entry ([.ref h0, .int x1, .int x2, .int x3]) (n := 4) (Nat.le_of_ble_eq_true rfl)
  rw [show entryFrame m args 4 = entryFrame m ([.ref h0, .int x1, .int x2, .int x3] : List Value).toArray 4 from by rw [hav], lg_entry_eq]
  generalize (lg_sl ([.ref h0, .int x1, .int x2, .int x3]) ++ List.replicate (4 - (lg_sl ([.ref h0, .int x1, .int x2, .int x3])).length) Slot.unset).toArray = ls at hl ⊢
  have hl : lv_has ls 4 [(0, .ref h0), (1, .int x1), (2, .int x2), (3, .int x3)] := hl
  generalize hR : (headSpec (tb (.code yX3_addToken cX3_addToken 4 none)) (rm 0)).room = R
  have hR := hR.symm
  generalize hQ : MQ below (QCv E D G (fun H => ∃ ft' fp' fn' : Nat → Int32, RT E D G h0 ft' fp' fn' (tt + 1) H ∧ AT ft fp fn ft' fp' fn' tt x1 x2 x3)) args s 0 0 (th_A G) = QF
  have hQ := hQ.symm
  obtain ⟨ht401, ⟨a1, hf2, hq3, hA4⟩, ⟨a5, hf6, hq7, hA8⟩, ⟨a9, hf10, hq11, hA12⟩, ⟨w13, hg14, k15⟩⟩ := hX
  refine lv_aload_n hx hb dX3_addToken_0 rfl (lv_at hl 0 rfl) ?_
  refine gmIC hx hb hts inT3 hown hK hI List.not_mem_nil hG0 6 (by decide) (hts _ (tb_c wd_135)) rfl rfl dX3_addToken_1 (fun w16 hg17 k18 k19 => ?_)
  obtain rfl := gfC.uniq (by decide) hg14 hg17
  refine lv_aload_n hx hb dX3_addToken_4 rfl (lv_at hl 0 rfl) ?_
  refine gmAC hx hb hts inT3 hown hK hI List.not_mem_nil hG0 3 (by decide) (hts _ (tb_c wd_132)) rfl rfl dX3_addToken_5 (fun a20 hq21 hf22 => ?_)
  obtain rfl := frC.uniq (by decide) hf2 hf22
  refine va_alen hx hb hK (th_one hA4) 0 0 rfl (v := 401) rfl (show Int32.ofNat 401 = (401 : Int32) from by decide) dX3_addToken_8 ?_
  refine lv_icmp_ge (tgt := 52) hx hb dX3_addToken_9 (by decide) (fun c23 => ?_) (fun c23 => ?_)
  · skip
    have k24 := iv_le (X := (401)) (Y := w13.toInt) (by decide) rfl c23
    have hpost : ∃ ft' fp' fn' : Nat → Int32, RT E D G h0 ft' fp' fn' (tt + 1) s.heap ∧ AT ft fp fn ft' fp' fn' tt x1 x2 x3 := by first | exact ⟨ft, fp, fn, ⟨by omega, ⟨a1, hf2, hq3, hA4⟩, ⟨a5, hf6, hq7, hA8⟩, ⟨a9, hf10, hq11, hA12⟩, ⟨w13, hg14, by first | omega | decide⟩⟩, AT.mk (by omega) (by omega) (by omega)⟩ | (exfalso; omega)
    rw [hQ]
    exact W.vret hx hb hr (fun t ht hW => ⟨⟨(), rfl, trivial, ⟨by rw [ht]; exact hI, hN.warm hW, va_K.moved hW.alike hK⟩, by first | (rw [ht]; exact hpost) | exact hpost⟩, hS.F ht⟩) hS.2.2 dX3_addToken_52
  · skip
    have k25 := iv_nle (X := (401)) (Y := w13.toInt) (by decide) rfl c23
    refine lv_aload_n hx hb dX3_addToken_12 rfl (lv_at hl 0 rfl) ?_
    refine gmAC hx hb hts inT3 hown hK hI List.not_mem_nil hG0 3 (by decide) (hts _ (tb_c wd_132)) rfl rfl dX3_addToken_13 (fun a26 hq27 hf28 => ?_)
    obtain rfl := frC.uniq (by decide) hf2 hf28
    refine lv_aload_n hx hb dX3_addToken_16 rfl (lv_at hl 0 rfl) ?_
    refine gmIC hx hb hts inT3 hown hK hI List.not_mem_nil hG0 6 (by decide) (hts _ (tb_c wd_135)) rfl rfl dX3_addToken_17 (fun w29 hg30 k31 k32 => ?_)
    obtain rfl := gfC.uniq (by decide) hg14 hg30
    refine lv_iload_n hx hb dX3_addToken_20 rfl (lv_at hl 1 rfl) ?_
    refine th_iast hx hb hK hA4 0 rfl hS ⟨_, hq3⟩ (iv_in (X := w13.toInt) rfl (by omega) (by omega)) dX3_addToken_21 (fun H locs hA33 oq hS => ?_)
    have hI := th_I.put hI hq3 hA33 ok_17 oq
    have hg14 := gfC.arr hG0 hq3 (by decide) oq hg14
    have hf2 := frC.arr hG0 hq3 (by decide) oq hf2
    have hf6 := frC.arr hG0 hq3 (by decide) oq hf6
    have hf10 := frC.arr hG0 hq3 (by decide) oq hf10
    have hA8 := va_at.kept hA8 (oq _ (m_ne hq7 hq3 (by first | decide | (dsimp only; decide))))
    have hA12 := va_at.kept hA12 (oq _ (m_ne hq11 hq3 (by first | decide | (dsimp only; decide))))
    have e34 : x1 = (upd ft (w13 : Int32).toNatClampNeg x1) (w13 : Int32).toNatClampNeg := rd_us
    refine lv_aload_n hx hb dX3_addToken_22 rfl (lv_at hl 0 rfl) ?_
    refine gmAC hx hb hts inT3 hown hK hI List.not_mem_nil hG0 4 (by decide) (hts _ (tb_c wd_133)) rfl rfl dX3_addToken_23 (fun a35 hq36 hf37 => ?_)
    obtain rfl := frC.uniq (by decide) hf6 hf37
    refine lv_aload_n hx hb dX3_addToken_26 rfl (lv_at hl 0 rfl) ?_
    refine gmIC hx hb hts inT3 hown hK hI List.not_mem_nil hG0 6 (by decide) (hts _ (tb_c wd_135)) rfl rfl dX3_addToken_27 (fun w38 hg39 k40 k41 => ?_)
    obtain rfl := gfC.uniq (by decide) hg14 hg39
    refine lv_iload_n hx hb dX3_addToken_30 rfl (lv_at hl 2 rfl) ?_
    refine th_iast hx hb hK hA8 0 rfl hS ⟨_, hq7⟩ (iv_in (X := w13.toInt) rfl (by omega) (by omega)) dX3_addToken_31 (fun H locs hA42 oq hS => ?_)
    have hI := th_I.put hI hq7 hA42 ok_18 oq
    have hg14 := gfC.arr hG0 hq7 (by decide) oq hg14
    have hf2 := frC.arr hG0 hq7 (by decide) oq hf2
    have hf6 := frC.arr hG0 hq7 (by decide) oq hf6
    have hf10 := frC.arr hG0 hq7 (by decide) oq hf10
    have hA33 := va_at.kept hA33 (oq _ (m_ne hq3 hq7 (by first | decide | (dsimp only; decide))))
    have hA12 := va_at.kept hA12 (oq _ (m_ne hq11 hq7 (by first | decide | (dsimp only; decide))))
    have e43 : x2 = (upd fp (w13 : Int32).toNatClampNeg x2) (w13 : Int32).toNatClampNeg := rd_us
    refine lv_aload_n hx hb dX3_addToken_32 rfl (lv_at hl 0 rfl) ?_
    refine gmAC hx hb hts inT3 hown hK hI List.not_mem_nil hG0 5 (by decide) (hts _ (tb_c wd_134)) rfl rfl dX3_addToken_33 (fun a44 hq45 hf46 => ?_)
    obtain rfl := frC.uniq (by decide) hf10 hf46
    refine lv_aload_n hx hb dX3_addToken_36 rfl (lv_at hl 0 rfl) ?_
    refine gmIC hx hb hts inT3 hown hK hI List.not_mem_nil hG0 6 (by decide) (hts _ (tb_c wd_135)) rfl rfl dX3_addToken_37 (fun w47 hg48 k49 k50 => ?_)
    obtain rfl := gfC.uniq (by decide) hg14 hg48
    refine lv_iload_n hx hb dX3_addToken_40 rfl (lv_at hl 3 rfl) ?_
    refine th_iast hx hb hK hA12 0 rfl hS ⟨_, hq11⟩ (iv_in (X := w13.toInt) rfl (by omega) (by omega)) dX3_addToken_41 (fun H locs hA51 oq hS => ?_)
    have hI := th_I.put hI hq11 hA51 ok_19 oq
    have hg14 := gfC.arr hG0 hq11 (by decide) oq hg14
    have hf2 := frC.arr hG0 hq11 (by decide) oq hf2
    have hf6 := frC.arr hG0 hq11 (by decide) oq hf6
    have hf10 := frC.arr hG0 hq11 (by decide) oq hf10
    have hA33 := va_at.kept hA33 (oq _ (m_ne hq3 hq11 (by first | decide | (dsimp only; decide))))
    have hA42 := va_at.kept hA42 (oq _ (m_ne hq7 hq11 (by first | decide | (dsimp only; decide))))
    have e52 : x3 = (upd fn (w13 : Int32).toNatClampNeg x3) (w13 : Int32).toNatClampNeg := rd_us
    refine lv_aload_n hx hb dX3_addToken_42 rfl (lv_at hl 0 rfl) ?_
    refine lv_dup hx hb dX3_addToken_43 rfl ?_
    refine gmIC hx hb hts inT3 hown hK hI List.not_mem_nil hG0 6 (by decide) (hts _ (tb_c wd_135)) rfl rfl dX3_addToken_44 (fun w53 hg54 k55 k56 => ?_)
    obtain rfl := gfC.uniq (by decide) hg14 hg54
    refine lv_iconst (v := 1) hx hb dX3_addToken_47 (by decide) ?_
    refine lv_iadd hx hb dX3_addToken_48 ?_
    refine lv_topi (fun v57 e58 => ?_)
    have tv57 : v57.toInt = w13.toInt + (1) := iv_add rfl (by decide) e58 (by omega) (by omega)
    refine pmIC (ty := .int) hx hb hts inT3 hown hK hI List.not_mem_nil hG0 hS ⟨_, hG0⟩ 6 (by decide) (hts _ (tb_c wd_135)) rfl rfl (by decide +kernel) rfl rfl rfl (by omega) (by omega) dX3_addToken_49 (fun H locs hI hgP hS => ?_)
    have hg59 := hgP.2.1
    have hf2 := hgP.2.2.2 3 _ (by decide) (by decide) hf2
    have hf6 := hgP.2.2.2 4 _ (by decide) (by decide) hf6
    have hf10 := hgP.2.2.2 5 _ (by decide) (by decide) hf10
    have hA33 := va_at.kept hA33 (hgP.1 _ (m_ne hq3 hG0 (by first | decide | (dsimp only; decide))))
    have hA42 := va_at.kept hA42 (hgP.1 _ (m_ne hq7 hG0 (by first | decide | (dsimp only; decide))))
    have hA51 := va_at.kept hA51 (hgP.1 _ (m_ne hq11 hG0 (by first | decide | (dsimp only; decide))))
    have hpost : ∃ ft' fp' fn' : Nat → Int32, RT E D G h0 ft' fp' fn' (tt + 1) H ∧ AT ft fp fn ft' fp' fn' tt x1 x2 x3 := by first | exact ⟨(upd ft (w13 : Int32).toNatClampNeg x1), (upd fp (w13 : Int32).toNatClampNeg x2), (upd fn (w13 : Int32).toNatClampNeg x3), ⟨by omega, ⟨a1, hf2, hq3, hA33⟩, ⟨a5, hf6, hq7, hA42⟩, ⟨a9, hf10, hq11, hA51⟩, ⟨v57, hg59, by first | omega | decide⟩⟩, AT.mk (by omega) (by omega) (by omega)⟩ | (exfalso; omega)
    rw [hQ]
    exact W.vret hx hb hr (fun t ht hW => ⟨⟨(), rfl, trivial, ⟨by rw [ht]; exact hI, hN.warm hW, va_K.moved hW.alike hK⟩, by first | (rw [ht]; exact hpost) | exact hpost⟩, hS.F ht⟩) hS.2.2 dX3_addToken_52
theorem dX3_readToken_0g : (decode cX3_readToken 0 = .ok (.iload_n 2, 1)) ∧ (decode cX3_readToken 1 = .ok (.iconst 1, 1)) ∧ (decode cX3_readToken 2 = .ok (.iadd, 1)) ∧ (decode cX3_readToken 3 = .ok (.istore 4, 2)) ∧ (decode cX3_readToken 5 = .ok (.aload_n 1, 1)) ∧ (decode cX3_readToken 6 = .ok (.iload_n 2, 1)) ∧ (decode cX3_readToken 7 = .ok (.iaload, 1)) ∧ (decode cX3_readToken 8 = .ok (.bipush 48, 2)) ∧ (decode cX3_readToken 10 = .ok (.isub, 1)) ∧ (decode cX3_readToken 11 = .ok (.istore 5, 2)) := by decide +kernel
theorem dX3_readToken_0 : decode cX3_readToken 0 = .ok (.iload_n 2, 1) := dX3_readToken_0g.1
theorem dX3_readToken_1 : decode cX3_readToken 1 = .ok (.iconst 1, 1) := dX3_readToken_0g.2.1
theorem dX3_readToken_2 : decode cX3_readToken 2 = .ok (.iadd, 1) := dX3_readToken_0g.2.2.1
theorem dX3_readToken_3 : decode cX3_readToken 3 = .ok (.istore 4, 2) := dX3_readToken_0g.2.2.2.1
theorem dX3_readToken_5 : decode cX3_readToken 5 = .ok (.aload_n 1, 1) := dX3_readToken_0g.2.2.2.2.1
theorem dX3_readToken_6 : decode cX3_readToken 6 = .ok (.iload_n 2, 1) := dX3_readToken_0g.2.2.2.2.2.1
theorem dX3_readToken_7 : decode cX3_readToken 7 = .ok (.iaload, 1) := dX3_readToken_0g.2.2.2.2.2.2.1
theorem dX3_readToken_8 : decode cX3_readToken 8 = .ok (.bipush 48, 2) := dX3_readToken_0g.2.2.2.2.2.2.2.1
theorem dX3_readToken_10 : decode cX3_readToken 10 = .ok (.isub, 1) := dX3_readToken_0g.2.2.2.2.2.2.2.2.1
theorem dX3_readToken_11 : decode cX3_readToken 11 = .ok (.istore 5, 2) := dX3_readToken_0g.2.2.2.2.2.2.2.2.2
theorem dX3_readToken_13g : (decode cX3_readToken 13 = .ok (.aload_n 1, 1)) ∧ (decode cX3_readToken 14 = .ok (.iload_n 2, 1)) ∧ (decode cX3_readToken 15 = .ok (.iaload, 1)) ∧ (decode cX3_readToken 16 = .ok (.invokestatic 79, 3)) ∧ (decode cX3_readToken 19 = .ok (.ifCond .eq 41, 3)) ∧ (decode cX3_readToken 22 = .ok (.iload 4, 2)) ∧ (decode cX3_readToken 24 = .ok (.iload_n 3, 1)) ∧ (decode cX3_readToken 25 = .ok (.if_icmp .ge 19, 3)) ∧ (decode cX3_readToken 28 = .ok (.aload_n 1, 1)) ∧ (decode cX3_readToken 29 = .ok (.iload 4, 2)) := by decide +kernel
theorem dX3_readToken_13 : decode cX3_readToken 13 = .ok (.aload_n 1, 1) := dX3_readToken_13g.1
theorem dX3_readToken_14 : decode cX3_readToken 14 = .ok (.iload_n 2, 1) := dX3_readToken_13g.2.1
theorem dX3_readToken_15 : decode cX3_readToken 15 = .ok (.iaload, 1) := dX3_readToken_13g.2.2.1
theorem dX3_readToken_16 : decode cX3_readToken 16 = .ok (.invokestatic 79, 3) := dX3_readToken_13g.2.2.2.1
theorem dX3_readToken_19 : decode cX3_readToken 19 = .ok (.ifCond .eq 41, 3) := dX3_readToken_13g.2.2.2.2.1
theorem dX3_readToken_22 : decode cX3_readToken 22 = .ok (.iload 4, 2) := dX3_readToken_13g.2.2.2.2.2.1
theorem dX3_readToken_24 : decode cX3_readToken 24 = .ok (.iload_n 3, 1) := dX3_readToken_13g.2.2.2.2.2.2.1
theorem dX3_readToken_25 : decode cX3_readToken 25 = .ok (.if_icmp .ge 19, 3) := dX3_readToken_13g.2.2.2.2.2.2.2.1
theorem dX3_readToken_28 : decode cX3_readToken 28 = .ok (.aload_n 1, 1) := dX3_readToken_13g.2.2.2.2.2.2.2.2.1
theorem dX3_readToken_29 : decode cX3_readToken 29 = .ok (.iload 4, 2) := dX3_readToken_13g.2.2.2.2.2.2.2.2.2
theorem dX3_readToken_31g : (decode cX3_readToken 31 = .ok (.iaload, 1)) ∧ (decode cX3_readToken 32 = .ok (.invokestatic 79, 3)) ∧ (decode cX3_readToken 35 = .ok (.ifCond .eq 9, 3)) ∧ (decode cX3_readToken 38 = .ok (.iinc 4 1, 3)) ∧ (decode cX3_readToken 41 = .ok (.goto (-19), 3)) ∧ (decode cX3_readToken 44 = .ok (.aload_n 0, 1)) ∧ (decode cX3_readToken 45 = .ok (.aload_n 1, 1)) ∧ (decode cX3_readToken 46 = .ok (.iload_n 2, 1)) ∧ (decode cX3_readToken 47 = .ok (.iload 4, 2)) ∧ (decode cX3_readToken 49 = .ok (.invokestatic 83, 3)) := by decide +kernel
theorem dX3_readToken_31 : decode cX3_readToken 31 = .ok (.iaload, 1) := dX3_readToken_31g.1
theorem dX3_readToken_32 : decode cX3_readToken 32 = .ok (.invokestatic 79, 3) := dX3_readToken_31g.2.1
theorem dX3_readToken_35 : decode cX3_readToken 35 = .ok (.ifCond .eq 9, 3) := dX3_readToken_31g.2.2.1
theorem dX3_readToken_38 : decode cX3_readToken 38 = .ok (.iinc 4 1, 3) := dX3_readToken_31g.2.2.2.1
theorem dX3_readToken_41 : decode cX3_readToken 41 = .ok (.goto (-19), 3) := dX3_readToken_31g.2.2.2.2.1
theorem dX3_readToken_44 : decode cX3_readToken 44 = .ok (.aload_n 0, 1) := dX3_readToken_31g.2.2.2.2.2.1
theorem dX3_readToken_45 : decode cX3_readToken 45 = .ok (.aload_n 1, 1) := dX3_readToken_31g.2.2.2.2.2.2.1
theorem dX3_readToken_46 : decode cX3_readToken 46 = .ok (.iload_n 2, 1) := dX3_readToken_31g.2.2.2.2.2.2.2.1
theorem dX3_readToken_47 : decode cX3_readToken 47 = .ok (.iload 4, 2) := dX3_readToken_31g.2.2.2.2.2.2.2.2.1
theorem dX3_readToken_49 : decode cX3_readToken 49 = .ok (.invokestatic 83, 3) := dX3_readToken_31g.2.2.2.2.2.2.2.2.2
theorem dX3_readToken_52g : (decode cX3_readToken 52 = .ok (.iload_n 2, 1)) ∧ (decode cX3_readToken 53 = .ok (.iconst 0, 1)) ∧ (decode cX3_readToken 54 = .ok (.invokevirtual 62, 3)) ∧ (decode cX3_readToken 57 = .ok (.goto 76, 3)) ∧ (decode cX3_readToken 60 = .ok (.aload_n 1, 1)) ∧ (decode cX3_readToken 61 = .ok (.iload_n 2, 1)) ∧ (decode cX3_readToken 62 = .ok (.iaload, 1)) ∧ (decode cX3_readToken 63 = .ok (.invokestatic 86, 3)) ∧ (decode cX3_readToken 66 = .ok (.ifCond .eq 58, 3)) ∧ (decode cX3_readToken 69 = .ok (.iload 4, 2)) := by decide +kernel
theorem dX3_readToken_52 : decode cX3_readToken 52 = .ok (.iload_n 2, 1) := dX3_readToken_52g.1
theorem dX3_readToken_53 : decode cX3_readToken 53 = .ok (.iconst 0, 1) := dX3_readToken_52g.2.1
theorem dX3_readToken_54 : decode cX3_readToken 54 = .ok (.invokevirtual 62, 3) := dX3_readToken_52g.2.2.1
theorem dX3_readToken_57 : decode cX3_readToken 57 = .ok (.goto 76, 3) := dX3_readToken_52g.2.2.2.1
theorem dX3_readToken_60 : decode cX3_readToken 60 = .ok (.aload_n 1, 1) := dX3_readToken_52g.2.2.2.2.1
theorem dX3_readToken_61 : decode cX3_readToken 61 = .ok (.iload_n 2, 1) := dX3_readToken_52g.2.2.2.2.2.1
theorem dX3_readToken_62 : decode cX3_readToken 62 = .ok (.iaload, 1) := dX3_readToken_52g.2.2.2.2.2.2.1
theorem dX3_readToken_63 : decode cX3_readToken 63 = .ok (.invokestatic 86, 3) := dX3_readToken_52g.2.2.2.2.2.2.2.1
theorem dX3_readToken_66 : decode cX3_readToken 66 = .ok (.ifCond .eq 58, 3) := dX3_readToken_52g.2.2.2.2.2.2.2.2.1
theorem dX3_readToken_69 : decode cX3_readToken 69 = .ok (.iload 4, 2) := dX3_readToken_52g.2.2.2.2.2.2.2.2.2
theorem dX3_readToken_71g : (decode cX3_readToken 71 = .ok (.iload_n 3, 1)) ∧ (decode cX3_readToken 72 = .ok (.if_icmp .ge 40, 3)) ∧ (decode cX3_readToken 75 = .ok (.aload_n 1, 1)) ∧ (decode cX3_readToken 76 = .ok (.iload 4, 2)) ∧ (decode cX3_readToken 78 = .ok (.iaload, 1)) ∧ (decode cX3_readToken 79 = .ok (.invokestatic 86, 3)) ∧ (decode cX3_readToken 82 = .ok (.ifCond .eq 30, 3)) ∧ (decode cX3_readToken 85 = .ok (.iload 5, 2)) ∧ (decode cX3_readToken 87 = .ok (.bipush 10, 2)) ∧ (decode cX3_readToken 89 = .ok (.imul, 1)) := by decide +kernel
theorem dX3_readToken_71 : decode cX3_readToken 71 = .ok (.iload_n 3, 1) := dX3_readToken_71g.1
theorem dX3_readToken_72 : decode cX3_readToken 72 = .ok (.if_icmp .ge 40, 3) := dX3_readToken_71g.2.1
theorem dX3_readToken_75 : decode cX3_readToken 75 = .ok (.aload_n 1, 1) := dX3_readToken_71g.2.2.1
theorem dX3_readToken_76 : decode cX3_readToken 76 = .ok (.iload 4, 2) := dX3_readToken_71g.2.2.2.1
theorem dX3_readToken_78 : decode cX3_readToken 78 = .ok (.iaload, 1) := dX3_readToken_71g.2.2.2.2.1
theorem dX3_readToken_79 : decode cX3_readToken 79 = .ok (.invokestatic 86, 3) := dX3_readToken_71g.2.2.2.2.2.1
theorem dX3_readToken_82 : decode cX3_readToken 82 = .ok (.ifCond .eq 30, 3) := dX3_readToken_71g.2.2.2.2.2.2.1
theorem dX3_readToken_85 : decode cX3_readToken 85 = .ok (.iload 5, 2) := dX3_readToken_71g.2.2.2.2.2.2.2.1
theorem dX3_readToken_87 : decode cX3_readToken 87 = .ok (.bipush 10, 2) := dX3_readToken_71g.2.2.2.2.2.2.2.2.1
theorem dX3_readToken_89 : decode cX3_readToken 89 = .ok (.imul, 1) := dX3_readToken_71g.2.2.2.2.2.2.2.2.2
theorem dX3_readToken_90g : (decode cX3_readToken 90 = .ok (.aload_n 1, 1)) ∧ (decode cX3_readToken 91 = .ok (.iload 4, 2)) ∧ (decode cX3_readToken 93 = .ok (.iaload, 1)) ∧ (decode cX3_readToken 94 = .ok (.iadd, 1)) ∧ (decode cX3_readToken 95 = .ok (.bipush 48, 2)) ∧ (decode cX3_readToken 97 = .ok (.isub, 1)) ∧ (decode cX3_readToken 98 = .ok (.sipush 1001, 3)) ∧ (decode cX3_readToken 101 = .ok (.invokestatic 49, 3)) ∧ (decode cX3_readToken 104 = .ok (.istore 5, 2)) ∧ (decode cX3_readToken 106 = .ok (.iinc 4 1, 3)) := by decide +kernel
theorem dX3_readToken_90 : decode cX3_readToken 90 = .ok (.aload_n 1, 1) := dX3_readToken_90g.1
theorem dX3_readToken_91 : decode cX3_readToken 91 = .ok (.iload 4, 2) := dX3_readToken_90g.2.1
theorem dX3_readToken_93 : decode cX3_readToken 93 = .ok (.iaload, 1) := dX3_readToken_90g.2.2.1
theorem dX3_readToken_94 : decode cX3_readToken 94 = .ok (.iadd, 1) := dX3_readToken_90g.2.2.2.1
theorem dX3_readToken_95 : decode cX3_readToken 95 = .ok (.bipush 48, 2) := dX3_readToken_90g.2.2.2.2.1
theorem dX3_readToken_97 : decode cX3_readToken 97 = .ok (.isub, 1) := dX3_readToken_90g.2.2.2.2.2.1
theorem dX3_readToken_98 : decode cX3_readToken 98 = .ok (.sipush 1001, 3) := dX3_readToken_90g.2.2.2.2.2.2.1
theorem dX3_readToken_101 : decode cX3_readToken 101 = .ok (.invokestatic 49, 3) := dX3_readToken_90g.2.2.2.2.2.2.2.1
theorem dX3_readToken_104 : decode cX3_readToken 104 = .ok (.istore 5, 2) := dX3_readToken_90g.2.2.2.2.2.2.2.2.1
theorem dX3_readToken_106 : decode cX3_readToken 106 = .ok (.iinc 4 1, 3) := dX3_readToken_90g.2.2.2.2.2.2.2.2.2
theorem dX3_readToken_109g : (decode cX3_readToken 109 = .ok (.goto (-40), 3)) ∧ (decode cX3_readToken 112 = .ok (.aload_n 0, 1)) ∧ (decode cX3_readToken 113 = .ok (.bipush (-2), 2)) ∧ (decode cX3_readToken 115 = .ok (.iload_n 2, 1)) ∧ (decode cX3_readToken 116 = .ok (.iload 5, 2)) ∧ (decode cX3_readToken 118 = .ok (.invokevirtual 62, 3)) ∧ (decode cX3_readToken 121 = .ok (.goto 12, 3)) ∧ (decode cX3_readToken 124 = .ok (.aload_n 0, 1)) ∧ (decode cX3_readToken 125 = .ok (.aload_n 1, 1)) ∧ (decode cX3_readToken 126 = .ok (.iload_n 2, 1)) := by decide +kernel
theorem dX3_readToken_109 : decode cX3_readToken 109 = .ok (.goto (-40), 3) := dX3_readToken_109g.1
theorem dX3_readToken_112 : decode cX3_readToken 112 = .ok (.aload_n 0, 1) := dX3_readToken_109g.2.1
theorem dX3_readToken_113 : decode cX3_readToken 113 = .ok (.bipush (-2), 2) := dX3_readToken_109g.2.2.1
theorem dX3_readToken_115 : decode cX3_readToken 115 = .ok (.iload_n 2, 1) := dX3_readToken_109g.2.2.2.1
theorem dX3_readToken_116 : decode cX3_readToken 116 = .ok (.iload 5, 2) := dX3_readToken_109g.2.2.2.2.1
theorem dX3_readToken_118 : decode cX3_readToken 118 = .ok (.invokevirtual 62, 3) := dX3_readToken_109g.2.2.2.2.2.1
theorem dX3_readToken_121 : decode cX3_readToken 121 = .ok (.goto 12, 3) := dX3_readToken_109g.2.2.2.2.2.2.1
theorem dX3_readToken_124 : decode cX3_readToken 124 = .ok (.aload_n 0, 1) := dX3_readToken_109g.2.2.2.2.2.2.2.1
theorem dX3_readToken_125 : decode cX3_readToken 125 = .ok (.aload_n 1, 1) := dX3_readToken_109g.2.2.2.2.2.2.2.2.1
theorem dX3_readToken_126 : decode cX3_readToken 126 = .ok (.iload_n 2, 1) := dX3_readToken_109g.2.2.2.2.2.2.2.2.2
theorem dX3_readToken_127g : (decode cX3_readToken 127 = .ok (.iaload, 1)) ∧ (decode cX3_readToken 128 = .ok (.iload_n 2, 1)) ∧ (decode cX3_readToken 129 = .ok (.iconst 0, 1)) ∧ (decode cX3_readToken 130 = .ok (.invokevirtual 62, 3)) ∧ (decode cX3_readToken 133 = .ok (.iload 4, 2)) ∧ (decode cX3_readToken 135 = .ok (.ireturn, 1)) := by decide +kernel
theorem dX3_readToken_127 : decode cX3_readToken 127 = .ok (.iaload, 1) := dX3_readToken_127g.1
theorem dX3_readToken_128 : decode cX3_readToken 128 = .ok (.iload_n 2, 1) := dX3_readToken_127g.2.1
theorem dX3_readToken_129 : decode cX3_readToken 129 = .ok (.iconst 0, 1) := dX3_readToken_127g.2.2.1
theorem dX3_readToken_130 : decode cX3_readToken 130 = .ok (.invokevirtual 62, 3) := dX3_readToken_127g.2.2.2.1
theorem dX3_readToken_133 : decode cX3_readToken 133 = .ok (.iload 4, 2) := dX3_readToken_127g.2.2.2.2.1
theorem dX3_readToken_135 : decode cX3_readToken 135 = .ok (.ireturn, 1) := dX3_readToken_127g.2.2.2.2.2
set_option maxHeartbeats 4000000 in
set_option maxRecDepth 100000 in
theorem c_X3_readToken (l : Launch) (E : Nat → Nat) (D : va_G) (G : th_G) (adK adV : Nat → Nat) (h0 : Nat) (hG0 : G h0 = some (7, 12)) (p1 : Nat) (hp1 : G p1 = some (16, 400)) (x2 x3 : Int32) (ft fp fn : Nat → Int32) (tt kk sz : Nat) (hx2 : (0 : Int) ≤ x2.toInt ∧ x2.toInt ≤ 399) (hkk : x2.toInt = (kk : Int)) (hsz : x3.toInt = (sz : Int)) (hsz4 : sz ≤ 400) (hks : kk < sz) (hb32 : tC E p1 kk ≠ 32) : Met l yX3_readToken (tb (.code yX3_readToken cX3_readToken 6 (some .int))) (rm 5) (va_Pc [.ref h0, .ref p1, .int x2, .int x3] (PWx E D G adK adV (fun H => (RT E D G h0 ft fp fn tt H ∧ TC_ E p1 sz fp ft fn kk tt ∧ CKI ft tt)))) (QCi E D G (fun r H => ∃ (ft' fp' fn' : Nat → Int32) (ee : Nat), (r : Int32).toInt = (ee : Int) ∧ kk < ee ∧ ee ≤ sz ∧ RT E D G h0 ft' fp' fn' (tt + 1) H ∧ TC_ E p1 sz fp' ft' fn' ee (tt + 1) ∧ CKI ft' (tt + 1))) 0 0 (th_A G) := by
  refine Met.ofW (cc := cX3_readToken) (maxL := 6) (ret := (some .int)) (by decide) rfl ?_
  intro p e s m args below meth c s₁ B hml hv
  obtain ⟨hav, ⟨⟨hI, hN, hK⟩, hWS⟩, hX⟩ := hv
  have hx := B.exec
  have hb := B.bytes
  have hr := B.returns
  have hts := atoms_spec (ws := tb (.code yX3_readToken cX3_readToken 6 (some .int))) B.pre
  have hown : s.vm.findClass RX3 = some m.cls := findClass_of_methodNamed B.named
  have hlocks := B.notSynchronized
  have hS : va_S (th_A G) s.heap s.heap [] := va_S.rf
  have hl := lv_entry ([.ref h0, .ref p1, .int x2, .int x3]) (n := 6) (Nat.le_of_ble_eq_true rfl)
  rw [show entryFrame m args 6 = entryFrame m ([.ref h0, .ref p1, .int x2, .int x3] : List Value).toArray 6 from by rw [hav], lg_entry_eq]
  generalize (lg_sl ([.ref h0, .ref p1, .int x2, .int x3]) ++ List.replicate (6 - (lg_sl ([.ref h0, .ref p1, .int x2, .int x3])).length) Slot.unset).toArray = ls at hl ⊢
  have hl : lv_has ls 6 [(0, .ref h0), (1, .ref p1), (2, .int x2), (3, .int x3)] := hl
  generalize hR : (headSpec (tb (.code yX3_readToken cX3_readToken 6 (some .int))) (rm 5)).room = R
  have hR := hR.symm
  generalize hQ : MQ below (QCi E D G (fun r H => ∃ (ft' fp' fn' : Nat → Int32) (ee : Nat), (r : Int32).toInt = (ee : Int) ∧ kk < ee ∧ ee ≤ sz ∧ RT E D G h0 ft' fp' fn' (tt + 1) H ∧ TC_ E p1 sz fp' ft' fn' ee (tt + 1) ∧ CKI ft' (tt + 1))) args s 0 0 (th_A G) = QF
  have hQ := hQ.symm
  obtain ⟨hRT, hTC, hCK⟩ := hX
  obtain ⟨ht401, ⟨a1, hf2, hq3, hA4⟩, ⟨a5, hf6, hq7, hA8⟩, ⟨a9, hf10, hq11, hA12⟩, ⟨w13, hg14, k15⟩⟩ := hRT
  have htc := tk_I.le hTC
  have J_69 : ∀ (nn : Nat) (H : Heap) (locs : List Loc) (ls : Array Slot) (v1596 : Int32) (v1597 : Int32) (ee : Nat), (Int.toNat (x3.toInt - v1597.toInt) = nn) → lv_has ls 6 [(5, .int v1596), (4, .int v1597), (0, .ref h0), (1, .ref p1), (2, .int x2), (3, .int x3)] → ((0 : Int) ≤ v1596.toInt ∧ v1596.toInt ≤ 1001) → ((1 : Int) ≤ v1597.toInt ∧ v1597.toInt ≤ 400) → ((0 : Int) ≤ x2.toInt ∧ x2.toInt ≤ 399) → ((0 : Int) ≤ x3.toInt ∧ x3.toInt ≤ 400) → (v1597.toInt = (ee : Int)) → (kk < ee ∧ ee ≤ sz) → (∀ j : Nat, kk ≤ j → j < ee → tk_dg (tC E p1 j)) → (VC E p1 sz kk ee (v1596.toInt)) → ((RT E D G h0 ft fp fn tt H ∧ TC_ E p1 sz fp ft fn kk tt ∧ CKI ft tt)) → th_I (okC E) D G [] H → va_S (th_A G) s.heap H locs → W p l e R s m args below meth c H locs 0 0 QF (F0 m 69 ls []) := by
    intro nn
    induction nn using Nat.strongRecOn with
    | ind nn ih_69 =>
      intro H locs ls v1596 v1597 ee hm hl k1598 k1599 k1600 k1601 hk4 hke hrun hVC hE9 hI hS
      obtain ⟨hRT, hTC, hCK⟩ := hE9
      obtain ⟨ht401, ⟨a1602, hf1603, hq1604, hA1605⟩, ⟨a1606, hf1607, hq1608, hA1609⟩, ⟨a1610, hf1611, hq1612, hA1613⟩, ⟨w1614, hg1615, k1616⟩⟩ := hRT
      have htc := tk_I.le hTC
      refine lv_iload hx hb dX3_readToken_69 (lv_at hl 1 rfl) ?_
      refine lv_iload_n hx hb dX3_readToken_71 rfl (lv_at hl 5 rfl) ?_
      refine lv_icmp_ge (tgt := 112) hx hb dX3_readToken_72 (by decide) (fun c1617 => ?_) (fun c1617 => ?_)
      · skip
        have k1618 := iv_le (X := x3.toInt) (Y := v1597.toInt) rfl rfl c1617
        have hrd : tk_rd (tC E p1) sz kk ee := ⟨by omega, by omega, hrun, by first | exact Or.inl (by omega) | exact Or.inr (by unfold tk_dg; omega)⟩
        have hct := tk_rd_ct hrd
        refine lv_aload_n hx hb dX3_readToken_112 rfl (lv_at hl 2 rfl) ?_
        refine lv_bipush (v := (-2)) hx hb dX3_readToken_113 (by decide) ?_
        refine lv_iload_n hx hb dX3_readToken_115 rfl (lv_at hl 4 rfl) ?_
        refine lv_iload hx hb dX3_readToken_116 (lv_at hl 0 rfl) ?_
        refine nx_v (As := [.int (-2), .int x2, .int v1596]) (rest := []) (n := 3) (d := 0) ⟨hx, hb, hml, hown, hts⟩ (c_X3_addToken l E D G h0 hG0 (-2) x2 v1596 ft fp fn tt (by omega)) wd_700 wd_702 wp_12 wd_5 wd_703 (by decide +kernel) ⟨by rw [hR]; exact Nat.le_of_ble_eq_true rfl, by rw [hR]; exact Nat.le_of_ble_eq_true rfl⟩ hI hN hK hS hG0 (⟨by omega, ⟨a1602, hf1603, hq1604, hA1605⟩, ⟨a1606, hf1607, hq1608, hA1609⟩, ⟨a1610, hf1611, hq1612, hA1613⟩, ⟨w1614, hg1615, by first | omega | decide⟩⟩) rfl hl.1 rfl (Nat.le_of_ble_eq_true rfl) dX3_readToken_118 ⟨Nat.zero_le _, Nat.zero_le _⟩ (fun H locs hI hp hS => ?_)
        obtain ⟨fa1620, fb1621, fc1622, hE, hAT1623⟩ := hp
        obtain ⟨ht401, ⟨a1624, hf1625, hq1626, hA1627⟩, ⟨a1628, hf1629, hq1630, hA1631⟩, ⟨a1632, hf1633, hq1634, hA1635⟩, ⟨w1636, hg1637, k1638⟩⟩ := hE
        have hTC9 := TC_tok hTC hAT1623 (by omega) hb32 (by omega) (by omega) hct (by omega) (Or.inr (Or.inl ⟨hrun kk (Nat.le_refl _) (by omega), by decide⟩)) (fun _ => ⟨hrd, VC.y hVC⟩)
        have hCK9 := CKI_tok hCK hAT1623 (zc_ck (Or.inr (Or.inr (Or.inl (by decide)))))
        refine lv_goto (tgt := 133) hx hb dX3_readToken_121 (by decide) ?_
        refine lv_iload hx hb dX3_readToken_133 (lv_at hl 1 rfl) ?_
        have hpost : ∃ (ft' fp' fn' : Nat → Int32) (ee : Nat), (v1597 : Int32).toInt = (ee : Int) ∧ kk < ee ∧ ee ≤ sz ∧ RT E D G h0 ft' fp' fn' (tt + 1) H ∧ TC_ E p1 sz fp' ft' fn' ee (tt + 1) ∧ CKI ft' (tt + 1) := ⟨fa1620, fb1621, fc1622, ee, by omega, by omega, by omega, ⟨by omega, ⟨a1624, hf1625, hq1626, hA1627⟩, ⟨a1628, hf1629, hq1630, hA1631⟩, ⟨a1632, hf1633, hq1634, hA1635⟩, ⟨w1636, hg1637, by first | omega | decide⟩⟩, hTC9, hCK9⟩
        rw [hQ]
        exact W.iret (v := v1597) hx hb hr (fun t ht hW => ⟨⟨v1597, v1597, rfl, rfl, ⟨by rw [ht]; exact hI, hN.warm hW, va_K.moved hW.alike hK⟩, by first | (rw [ht]; exact hpost) | exact hpost⟩, hS.F ht⟩) hS.2.2 dX3_readToken_135
      · skip
        have k1639 := iv_nle (X := x3.toInt) (Y := v1597.toInt) rfl rfl c1617
        refine lv_aload_n hx hb dX3_readToken_75 rfl (lv_at hl 3 rfl) ?_
        refine lv_iload hx hb dX3_readToken_76 (lv_at hl 1 rfl) ?_
        obtain ⟨F1640, hA1641, hP1642⟩ := op_16 hI hp1 List.not_mem_nil
        refine th_iald hx hb hK hA1641 0 rfl (iv_in (X := v1597.toInt) rfl (by omega) (by omega)) dX3_readToken_78 (fun v1643 e1644 => ?_)
        have k1645 := tc_at hP1642 e1644 (p := ee) (by omega) (by omega)
        refine th_cSs (As := [.int v1643]) (rest := []) (n := 1) (d := 0) ⟨hx, hb, hml, hown, hts⟩ (c_X3_isDigit l H v1643) wd_704 wd_705 wd_5 wd_706 (by decide +kernel) ⟨by rw [hR]; exact Nat.le_of_ble_eq_true rfl, by rw [hR]; exact Nat.le_of_ble_eq_true rfl⟩ hN hS rfl hl.1 rfl (Nat.le_of_ble_eq_true rfl) dX3_readToken_79 ⟨Nat.zero_le _, Nat.zero_le _⟩ (fun r1646 locs hp hS => ?_)
        rcases hp with ⟨rfl, hp⟩ | ⟨rfl, hp⟩
        · skip
          try simp only [rg, not_and, Int.not_le] at hp
          have hp1647 := hp
          refine lv_if_eq (tgt := 112) hx hb dX3_readToken_82 (by decide) (fun c => absurd c (by decide)) (fun _ => ?_)
          refine lv_iload hx hb dX3_readToken_85 (lv_at hl 0 rfl) ?_
          refine lv_bipush (v := 10) hx hb dX3_readToken_87 (by decide) ?_
          refine lv_imul hx hb dX3_readToken_89 ?_
          refine lv_topi (fun v1648 e1649 => ?_)
          have tv1648 : v1648.toInt = v1596.toInt * (10) := iv_mul rfl (by decide) e1649 (by omega) (by omega)
          refine lv_aload_n hx hb dX3_readToken_90 rfl (lv_at hl 3 rfl) ?_
          refine lv_iload hx hb dX3_readToken_91 (lv_at hl 1 rfl) ?_
          obtain ⟨F1650, hA1651, hP1652⟩ := op_16 hI hp1 List.not_mem_nil
          refine th_iald hx hb hK hA1651 0 rfl (iv_in (X := v1597.toInt) rfl (by omega) (by omega)) dX3_readToken_93 (fun v1653 e1654 => ?_)
          have k1655 := tc_at hP1652 e1654 (p := ee) (by omega) (by omega)
          refine lv_iadd hx hb dX3_readToken_94 ?_
          refine lv_topi (fun v1656 e1657 => ?_)
          have tv1656 : v1656.toInt = v1648.toInt + v1653.toInt := iv_add rfl rfl e1657 (by omega) (by omega)
          refine lv_bipush (v := 48) hx hb dX3_readToken_95 (by decide) ?_
          refine lv_isub hx hb dX3_readToken_97 ?_
          refine lv_topi (fun v1658 e1659 => ?_)
          have tv1658 : v1658.toInt = v1656.toInt - (48) := iv_sub rfl (by decide) e1659 (by omega) (by omega)
          refine lv_sipush (v := 1001) hx hb dX3_readToken_98 (by decide) ?_
          refine va_mmin hx hb (hml.trans hl.1.symm) hown (hts _ (tb_c wd_647)) (hts _ (tb_c wd_583)) (hts _ (tb_c wd_4)) (hts _ (tb_c wd_584)) (by rw [hR]; exact Nat.le_of_ble_eq_true rfl) (by rw [hR]; exact Nat.le_of_ble_eq_true rfl) (Nat.zero_le _) (Nat.zero_le _) dX3_readToken_101 ?_
          refine lv_topi (fun v1660 e1661 => ?_)
          have tv1660 := iv_min e1661
          rw [show (1001 : Int32).toInt = 1001 from by decide] at tv1660
          refine lv_istore (lv' := [(5, .int v1660), (4, .int v1597), (0, .ref h0), (1, .ref p1), (2, .int x2), (3, .int x3)]) hx hb dX3_readToken_104 hl (by decide) rfl (fun ls hl => ?_)
          obtain ⟨v1662, e1663⟩ : ∃ y : Int32, y = v1597 + (1) := ⟨_, rfl⟩
          have tv1662 : v1662.toInt = v1597.toInt + (1) := iv_add rfl (by decide) e1663 (by omega) (by omega)
          refine lv_iinc (v := v1662) (lv' := [(4, .int v1662), (5, .int v1660), (0, .ref h0), (1, .ref p1), (2, .int x2), (3, .int x3)]) hx hb dX3_readToken_106 hl (k := 1) rfl (by rw [e1663]; rfl) (by decide) rfl (fun ls hl => ?_)
          refine lv_goto (tgt := 69) hx hb dX3_readToken_109 (by decide) ?_
          exact ih_69 _ (by omega) H locs ls v1660 v1662 (ee + 1) rfl (lv_sub hl [1, 0, 2, 3, 4, 5] rfl) ⟨by omega, by omega⟩ ⟨by omega, by omega⟩ ⟨by omega, by omega⟩ ⟨by omega, by omega⟩ (by omega) (⟨by omega, by omega⟩) (fun j h1 h2 => (Nat.lt_or_ge j ee).elim (fun q => hrun j h1 q) (fun q => by rw [show j = ee by omega]; unfold tk_dg; omega)) (VC.add hVC (by omega) (by unfold tk_dg; omega) rfl (by omega)) (⟨⟨by omega, ⟨a1602, hf1603, hq1604, hA1605⟩, ⟨a1606, hf1607, hq1608, hA1609⟩, ⟨a1610, hf1611, hq1612, hA1613⟩, ⟨w1614, hg1615, by first | omega | decide⟩⟩, hTC, hCK⟩) hI hS
        · skip
          try simp only [rg, not_and, Int.not_le] at hp
          have hp1664 := hp
          refine lv_if_eq (tgt := 112) hx hb dX3_readToken_82 (by decide) (fun _ => ?_) (fun c => absurd c (by decide))
          have hrd : tk_rd (tC E p1) sz kk ee := ⟨by omega, by omega, hrun, by first | exact Or.inl (by omega) | exact Or.inr (by unfold tk_dg; omega)⟩
          have hct := tk_rd_ct hrd
          refine lv_aload_n hx hb dX3_readToken_112 rfl (lv_at hl 2 rfl) ?_
          refine lv_bipush (v := (-2)) hx hb dX3_readToken_113 (by decide) ?_
          refine lv_iload_n hx hb dX3_readToken_115 rfl (lv_at hl 4 rfl) ?_
          refine lv_iload hx hb dX3_readToken_116 (lv_at hl 0 rfl) ?_
          refine nx_v (As := [.int (-2), .int x2, .int v1596]) (rest := []) (n := 3) (d := 0) ⟨hx, hb, hml, hown, hts⟩ (c_X3_addToken l E D G h0 hG0 (-2) x2 v1596 ft fp fn tt (by omega)) wd_700 wd_702 wp_12 wd_5 wd_703 (by decide +kernel) ⟨by rw [hR]; exact Nat.le_of_ble_eq_true rfl, by rw [hR]; exact Nat.le_of_ble_eq_true rfl⟩ hI hN hK hS hG0 (⟨by omega, ⟨a1602, hf1603, hq1604, hA1605⟩, ⟨a1606, hf1607, hq1608, hA1609⟩, ⟨a1610, hf1611, hq1612, hA1613⟩, ⟨w1614, hg1615, by first | omega | decide⟩⟩) rfl hl.1 rfl (Nat.le_of_ble_eq_true rfl) dX3_readToken_118 ⟨Nat.zero_le _, Nat.zero_le _⟩ (fun H locs hI hp hS => ?_)
          obtain ⟨fa1666, fb1667, fc1668, hE, hAT1669⟩ := hp
          obtain ⟨ht401, ⟨a1670, hf1671, hq1672, hA1673⟩, ⟨a1674, hf1675, hq1676, hA1677⟩, ⟨a1678, hf1679, hq1680, hA1681⟩, ⟨w1682, hg1683, k1684⟩⟩ := hE
          have hTC9 := TC_tok hTC hAT1669 (by omega) hb32 (by omega) (by omega) hct (by omega) (Or.inr (Or.inl ⟨hrun kk (Nat.le_refl _) (by omega), by decide⟩)) (fun _ => ⟨hrd, VC.y hVC⟩)
          have hCK9 := CKI_tok hCK hAT1669 (zc_ck (Or.inr (Or.inr (Or.inl (by decide)))))
          refine lv_goto (tgt := 133) hx hb dX3_readToken_121 (by decide) ?_
          refine lv_iload hx hb dX3_readToken_133 (lv_at hl 1 rfl) ?_
          have hpost : ∃ (ft' fp' fn' : Nat → Int32) (ee : Nat), (v1597 : Int32).toInt = (ee : Int) ∧ kk < ee ∧ ee ≤ sz ∧ RT E D G h0 ft' fp' fn' (tt + 1) H ∧ TC_ E p1 sz fp' ft' fn' ee (tt + 1) ∧ CKI ft' (tt + 1) := ⟨fa1666, fb1667, fc1668, ee, by omega, by omega, by omega, ⟨by omega, ⟨a1670, hf1671, hq1672, hA1673⟩, ⟨a1674, hf1675, hq1676, hA1677⟩, ⟨a1678, hf1679, hq1680, hA1681⟩, ⟨w1682, hg1683, by first | omega | decide⟩⟩, hTC9, hCK9⟩
          rw [hQ]
          exact W.iret (v := v1597) hx hb hr (fun t ht hW => ⟨⟨v1597, v1597, rfl, rfl, ⟨by rw [ht]; exact hI, hN.warm hW, va_K.moved hW.alike hK⟩, by first | (rw [ht]; exact hpost) | exact hpost⟩, hS.F ht⟩) hS.2.2 dX3_readToken_135
  have J_22 : ∀ (nn : Nat) (H : Heap) (locs : List Loc) (ls : Array Slot) (v1685 : Int32) (v1686 : Int32) (ee : Nat), (Int.toNat (x3.toInt - v1686.toInt) = nn) → lv_has ls 6 [(5, .int v1685), (4, .int v1686), (0, .ref h0), (1, .ref p1), (2, .int x2), (3, .int x3)] → ((-48 : Int) ≤ v1685.toInt ∧ v1685.toInt ≤ 207) → ((1 : Int) ≤ v1686.toInt ∧ v1686.toInt ≤ 400) → ((0 : Int) ≤ x2.toInt ∧ x2.toInt ≤ 399) → ((0 : Int) ≤ x3.toInt ∧ x3.toInt ≤ 400) → (v1686.toInt = (ee : Int)) → (kk < ee ∧ ee ≤ sz) → (∀ j : Nat, kk ≤ j → j < ee → tk_lt (tC E p1 j)) → ((RT E D G h0 ft fp fn tt H ∧ TC_ E p1 sz fp ft fn kk tt ∧ CKI ft tt)) → th_I (okC E) D G [] H → va_S (th_A G) s.heap H locs → W p l e R s m args below meth c H locs 0 0 QF (F0 m 22 ls []) := by
    intro nn
    induction nn using Nat.strongRecOn with
    | ind nn ih_22 =>
      intro H locs ls v1685 v1686 ee hm hl k1687 k1688 k1689 k1690 hk4 hke hrun hE9 hI hS
      obtain ⟨hRT, hTC, hCK⟩ := hE9
      obtain ⟨ht401, ⟨a1691, hf1692, hq1693, hA1694⟩, ⟨a1695, hf1696, hq1697, hA1698⟩, ⟨a1699, hf1700, hq1701, hA1702⟩, ⟨w1703, hg1704, k1705⟩⟩ := hRT
      have htc := tk_I.le hTC
      refine lv_iload hx hb dX3_readToken_22 (lv_at hl 1 rfl) ?_
      refine lv_iload_n hx hb dX3_readToken_24 rfl (lv_at hl 5 rfl) ?_
      refine lv_icmp_ge (tgt := 44) hx hb dX3_readToken_25 (by decide) (fun c1706 => ?_) (fun c1706 => ?_)
      · skip
        have k1707 := iv_le (X := x3.toInt) (Y := v1686.toInt) rfl rfl c1706
        have hrl : tk_rl (tC E p1) sz kk ee := ⟨by omega, by omega, hrun, by first | exact Or.inl (by omega) | exact Or.inr (by unfold tk_lt; omega)⟩
        have hct := tk_rl_ct hrl
        refine lv_aload_n hx hb dX3_readToken_44 rfl (lv_at hl 2 rfl) ?_
        refine lv_aload_n hx hb dX3_readToken_45 rfl (lv_at hl 3 rfl) ?_
        refine lv_iload_n hx hb dX3_readToken_46 rfl (lv_at hl 4 rfl) ?_
        refine lv_iload hx hb dX3_readToken_47 (lv_at hl 1 rfl) ?_
        refine st_S (As := [.ref p1, .int x2, .int v1686]) (rest := [.ref h0]) (n := 3) (d := 4) ⟨hx, hb, hml, hown, hts⟩ (c_X3_findWord l E D G adK adV H p1 hp1 x2 v1686 ⟨by omega, by omega⟩ ⟨by omega, by omega⟩ kk ee (by omega) (by omega) (by omega) hrun) wd_656 wd_657 wd_5 wd_658 (by decide +kernel) ⟨by rw [hR]; exact Nat.le_of_ble_eq_true rfl, by rw [hR]; exact Nat.le_of_ble_eq_true rfl⟩ hI hN hK hWS hS rfl hl.1 rfl (Nat.le_of_ble_eq_true rfl) dX3_readToken_49 ⟨Nat.zero_le _, Nat.zero_le _⟩ (fun r1708 locs hp hS => ?_)
        obtain ⟨w1709, hw1710, hw1711⟩ := hp
        refine lv_iload_n hx hb dX3_readToken_52 rfl (lv_at hl 4 rfl) ?_
        refine lv_iconst (v := 0) hx hb dX3_readToken_53 (by decide) ?_
        refine nx_v (As := [.int r1708, .int x2, .int 0]) (rest := []) (n := 3) (d := 0) ⟨hx, hb, hml, hown, hts⟩ (c_X3_addToken l E D G h0 hG0 r1708 x2 0 ft fp fn tt (by omega)) wd_700 wd_702 wp_12 wd_5 wd_703 (by decide +kernel) ⟨by rw [hR]; exact Nat.le_of_ble_eq_true rfl, by rw [hR]; exact Nat.le_of_ble_eq_true rfl⟩ hI hN hK hS hG0 (⟨by omega, ⟨a1691, hf1692, hq1693, hA1694⟩, ⟨a1695, hf1696, hq1697, hA1698⟩, ⟨a1699, hf1700, hq1701, hA1702⟩, ⟨w1703, hg1704, by first | omega | decide⟩⟩) rfl hl.1 rfl (Nat.le_of_ble_eq_true rfl) dX3_readToken_54 ⟨Nat.zero_le _, Nat.zero_le _⟩ (fun H locs hI hp hS => ?_)
        obtain ⟨fa1713, fb1714, fc1715, hE, hAT1716⟩ := hp
        obtain ⟨ht401, ⟨a1717, hf1718, hq1719, hA1720⟩, ⟨a1721, hf1722, hq1723, hA1724⟩, ⟨a1725, hf1726, hq1727, hA1728⟩, ⟨w1729, hg1730, k1731⟩⟩ := hE
        have hzc : zc (r1708).toInt = (w1709 : Int) := zc_w hw1711
        have hTC9 := TC_tok hTC hAT1716 (by omega) hb32 (by omega) (by omega) hct (by omega) (by rw [hzc]; exact tk_z_lt hrl hw1710) (fun z => by have := hrun kk (Nat.le_refl _) (by omega); unfold tk_lt at this; unfold tk_dg at z; omega)
        have hCK9 := CKI_tok hCK hAT1716 (zc_ck (by have := tk_w17 hw1710; omega))
        refine lv_goto (tgt := 133) hx hb dX3_readToken_57 (by decide) ?_
        refine lv_iload hx hb dX3_readToken_133 (lv_at hl 1 rfl) ?_
        have hpost : ∃ (ft' fp' fn' : Nat → Int32) (ee : Nat), (v1686 : Int32).toInt = (ee : Int) ∧ kk < ee ∧ ee ≤ sz ∧ RT E D G h0 ft' fp' fn' (tt + 1) H ∧ TC_ E p1 sz fp' ft' fn' ee (tt + 1) ∧ CKI ft' (tt + 1) := ⟨fa1713, fb1714, fc1715, ee, by omega, by omega, by omega, ⟨by omega, ⟨a1717, hf1718, hq1719, hA1720⟩, ⟨a1721, hf1722, hq1723, hA1724⟩, ⟨a1725, hf1726, hq1727, hA1728⟩, ⟨w1729, hg1730, by first | omega | decide⟩⟩, hTC9, hCK9⟩
        rw [hQ]
        exact W.iret (v := v1686) hx hb hr (fun t ht hW => ⟨⟨v1686, v1686, rfl, rfl, ⟨by rw [ht]; exact hI, hN.warm hW, va_K.moved hW.alike hK⟩, by first | (rw [ht]; exact hpost) | exact hpost⟩, hS.F ht⟩) hS.2.2 dX3_readToken_135
      · skip
        have k1732 := iv_nle (X := x3.toInt) (Y := v1686.toInt) rfl rfl c1706
        refine lv_aload_n hx hb dX3_readToken_28 rfl (lv_at hl 3 rfl) ?_
        refine lv_iload hx hb dX3_readToken_29 (lv_at hl 1 rfl) ?_
        obtain ⟨F1733, hA1734, hP1735⟩ := op_16 hI hp1 List.not_mem_nil
        refine th_iald hx hb hK hA1734 0 rfl (iv_in (X := v1686.toInt) rfl (by omega) (by omega)) dX3_readToken_31 (fun v1736 e1737 => ?_)
        have k1738 := tc_at hP1735 e1737 (p := ee) (by omega) (by omega)
        refine th_cSs (As := [.int v1736]) (rest := []) (n := 1) (d := 0) ⟨hx, hb, hml, hown, hts⟩ (c_X3_isLetter l H v1736) wd_653 wd_654 wd_5 wd_655 (by decide +kernel) ⟨by rw [hR]; exact Nat.le_of_ble_eq_true rfl, by rw [hR]; exact Nat.le_of_ble_eq_true rfl⟩ hN hS rfl hl.1 rfl (Nat.le_of_ble_eq_true rfl) dX3_readToken_32 ⟨Nat.zero_le _, Nat.zero_le _⟩ (fun r1739 locs hp hS => ?_)
        rcases hp with ⟨rfl, hp⟩ | ⟨rfl, hp⟩
        · skip
          try simp only [rg, not_and, Int.not_le] at hp
          have hp1740 := hp
          refine lv_if_eq (tgt := 44) hx hb dX3_readToken_35 (by decide) (fun c => absurd c (by decide)) (fun _ => ?_)
          obtain ⟨v1741, e1742⟩ : ∃ y : Int32, y = v1686 + (1) := ⟨_, rfl⟩
          have tv1741 : v1741.toInt = v1686.toInt + (1) := iv_add rfl (by decide) e1742 (by omega) (by omega)
          refine lv_iinc (v := v1741) (lv' := [(4, .int v1741), (5, .int v1685), (0, .ref h0), (1, .ref p1), (2, .int x2), (3, .int x3)]) hx hb dX3_readToken_38 hl (k := 1) rfl (by rw [e1742]; rfl) (by decide) rfl (fun ls hl => ?_)
          refine lv_goto (tgt := 22) hx hb dX3_readToken_41 (by decide) ?_
          exact ih_22 _ (by omega) H locs ls v1685 v1741 (ee + 1) rfl (lv_sub hl [1, 0, 2, 3, 4, 5] rfl) ⟨by omega, by omega⟩ ⟨by omega, by omega⟩ ⟨by omega, by omega⟩ ⟨by omega, by omega⟩ (by omega) (⟨by omega, by omega⟩) (fun j h1 h2 => (Nat.lt_or_ge j ee).elim (fun q => hrun j h1 q) (fun q => by rw [show j = ee by omega]; unfold tk_lt; omega)) (⟨⟨by omega, ⟨a1691, hf1692, hq1693, hA1694⟩, ⟨a1695, hf1696, hq1697, hA1698⟩, ⟨a1699, hf1700, hq1701, hA1702⟩, ⟨w1703, hg1704, by first | omega | decide⟩⟩, hTC, hCK⟩) hI hS
        · skip
          try simp only [rg, not_and, Int.not_le] at hp
          have hp1743 := hp
          refine lv_if_eq (tgt := 44) hx hb dX3_readToken_35 (by decide) (fun _ => ?_) (fun c => absurd c (by decide))
          have hrl : tk_rl (tC E p1) sz kk ee := ⟨by omega, by omega, hrun, by first | exact Or.inl (by omega) | exact Or.inr (by unfold tk_lt; omega)⟩
          have hct := tk_rl_ct hrl
          refine lv_aload_n hx hb dX3_readToken_44 rfl (lv_at hl 2 rfl) ?_
          refine lv_aload_n hx hb dX3_readToken_45 rfl (lv_at hl 3 rfl) ?_
          refine lv_iload_n hx hb dX3_readToken_46 rfl (lv_at hl 4 rfl) ?_
          refine lv_iload hx hb dX3_readToken_47 (lv_at hl 1 rfl) ?_
          refine st_S (As := [.ref p1, .int x2, .int v1686]) (rest := [.ref h0]) (n := 3) (d := 4) ⟨hx, hb, hml, hown, hts⟩ (c_X3_findWord l E D G adK adV H p1 hp1 x2 v1686 ⟨by omega, by omega⟩ ⟨by omega, by omega⟩ kk ee (by omega) (by omega) (by omega) hrun) wd_656 wd_657 wd_5 wd_658 (by decide +kernel) ⟨by rw [hR]; exact Nat.le_of_ble_eq_true rfl, by rw [hR]; exact Nat.le_of_ble_eq_true rfl⟩ hI hN hK hWS hS rfl hl.1 rfl (Nat.le_of_ble_eq_true rfl) dX3_readToken_49 ⟨Nat.zero_le _, Nat.zero_le _⟩ (fun r1744 locs hp hS => ?_)
          obtain ⟨w1745, hw1746, hw1747⟩ := hp
          refine lv_iload_n hx hb dX3_readToken_52 rfl (lv_at hl 4 rfl) ?_
          refine lv_iconst (v := 0) hx hb dX3_readToken_53 (by decide) ?_
          refine nx_v (As := [.int r1744, .int x2, .int 0]) (rest := []) (n := 3) (d := 0) ⟨hx, hb, hml, hown, hts⟩ (c_X3_addToken l E D G h0 hG0 r1744 x2 0 ft fp fn tt (by omega)) wd_700 wd_702 wp_12 wd_5 wd_703 (by decide +kernel) ⟨by rw [hR]; exact Nat.le_of_ble_eq_true rfl, by rw [hR]; exact Nat.le_of_ble_eq_true rfl⟩ hI hN hK hS hG0 (⟨by omega, ⟨a1691, hf1692, hq1693, hA1694⟩, ⟨a1695, hf1696, hq1697, hA1698⟩, ⟨a1699, hf1700, hq1701, hA1702⟩, ⟨w1703, hg1704, by first | omega | decide⟩⟩) rfl hl.1 rfl (Nat.le_of_ble_eq_true rfl) dX3_readToken_54 ⟨Nat.zero_le _, Nat.zero_le _⟩ (fun H locs hI hp hS => ?_)
          obtain ⟨fa1749, fb1750, fc1751, hE, hAT1752⟩ := hp
          obtain ⟨ht401, ⟨a1753, hf1754, hq1755, hA1756⟩, ⟨a1757, hf1758, hq1759, hA1760⟩, ⟨a1761, hf1762, hq1763, hA1764⟩, ⟨w1765, hg1766, k1767⟩⟩ := hE
          have hzc : zc (r1744).toInt = (w1745 : Int) := zc_w hw1747
          have hTC9 := TC_tok hTC hAT1752 (by omega) hb32 (by omega) (by omega) hct (by omega) (by rw [hzc]; exact tk_z_lt hrl hw1746) (fun z => by have := hrun kk (Nat.le_refl _) (by omega); unfold tk_lt at this; unfold tk_dg at z; omega)
          have hCK9 := CKI_tok hCK hAT1752 (zc_ck (by have := tk_w17 hw1746; omega))
          refine lv_goto (tgt := 133) hx hb dX3_readToken_57 (by decide) ?_
          refine lv_iload hx hb dX3_readToken_133 (lv_at hl 1 rfl) ?_
          have hpost : ∃ (ft' fp' fn' : Nat → Int32) (ee : Nat), (v1686 : Int32).toInt = (ee : Int) ∧ kk < ee ∧ ee ≤ sz ∧ RT E D G h0 ft' fp' fn' (tt + 1) H ∧ TC_ E p1 sz fp' ft' fn' ee (tt + 1) ∧ CKI ft' (tt + 1) := ⟨fa1749, fb1750, fc1751, ee, by omega, by omega, by omega, ⟨by omega, ⟨a1753, hf1754, hq1755, hA1756⟩, ⟨a1757, hf1758, hq1759, hA1760⟩, ⟨a1761, hf1762, hq1763, hA1764⟩, ⟨w1765, hg1766, by first | omega | decide⟩⟩, hTC9, hCK9⟩
          rw [hQ]
          exact W.iret (v := v1686) hx hb hr (fun t ht hW => ⟨⟨v1686, v1686, rfl, rfl, ⟨by rw [ht]; exact hI, hN.warm hW, va_K.moved hW.alike hK⟩, by first | (rw [ht]; exact hpost) | exact hpost⟩, hS.F ht⟩) hS.2.2 dX3_readToken_135
  refine lv_iload_n hx hb dX3_readToken_0 rfl (lv_at hl 2 rfl) ?_
  refine lv_iconst (v := 1) hx hb dX3_readToken_1 (by decide) ?_
  refine lv_iadd hx hb dX3_readToken_2 ?_
  refine lv_topi (fun v1768 e1769 => ?_)
  have tv1768 : v1768.toInt = x2.toInt + (1) := iv_add rfl (by decide) e1769 (by omega) (by omega)
  refine lv_istore (lv' := [(4, .int v1768), (0, .ref h0), (1, .ref p1), (2, .int x2), (3, .int x3)]) hx hb dX3_readToken_3 hl (by decide) rfl (fun ls hl => ?_)
  refine lv_aload_n hx hb dX3_readToken_5 rfl (lv_at hl 2 rfl) ?_
  refine lv_iload_n hx hb dX3_readToken_6 rfl (lv_at hl 3 rfl) ?_
  obtain ⟨F1770, hA1771, hP1772⟩ := op_16 hI hp1 List.not_mem_nil
  refine th_iald hx hb hK hA1771 0 rfl (iv_in (X := x2.toInt) rfl (by omega) (by omega)) dX3_readToken_7 (fun v1773 e1774 => ?_)
  have k1775 := tc_at hP1772 e1774 (p := kk) (by omega) (by omega)
  refine lv_bipush (v := 48) hx hb dX3_readToken_8 (by decide) ?_
  refine lv_isub hx hb dX3_readToken_10 ?_
  refine lv_topi (fun v1776 e1777 => ?_)
  have tv1776 : v1776.toInt = v1773.toInt - (48) := iv_sub rfl (by decide) e1777 (by omega) (by omega)
  refine lv_istore (lv' := [(5, .int v1776), (4, .int v1768), (0, .ref h0), (1, .ref p1), (2, .int x2), (3, .int x3)]) hx hb dX3_readToken_11 hl (by decide) rfl (fun ls hl => ?_)
  refine lv_aload_n hx hb dX3_readToken_13 rfl (lv_at hl 3 rfl) ?_
  refine lv_iload_n hx hb dX3_readToken_14 rfl (lv_at hl 4 rfl) ?_
  obtain ⟨F1778, hA1779, hP1780⟩ := op_16 hI hp1 List.not_mem_nil
  refine th_iald hx hb hK hA1779 0 rfl (iv_in (X := x2.toInt) rfl (by omega) (by omega)) dX3_readToken_15 (fun v1781 e1782 => ?_)
  have k1783 := tc_at hP1780 e1782 (p := kk) (by omega) (by omega)
  refine th_cSs (As := [.int v1781]) (rest := []) (n := 1) (d := 0) ⟨hx, hb, hml, hown, hts⟩ (c_X3_isLetter l s.heap v1781) wd_653 wd_654 wd_5 wd_655 (by decide +kernel) ⟨by rw [hR]; exact Nat.le_of_ble_eq_true rfl, by rw [hR]; exact Nat.le_of_ble_eq_true rfl⟩ hN hS rfl hl.1 rfl (Nat.le_of_ble_eq_true rfl) dX3_readToken_16 ⟨Nat.zero_le _, Nat.zero_le _⟩ (fun r1784 locs hp hS => ?_)
  rcases hp with ⟨rfl, hp⟩ | ⟨rfl, hp⟩
  · skip
    try simp only [rg, not_and, Int.not_le] at hp
    have hp1785 := hp
    refine lv_if_eq (tgt := 60) hx hb dX3_readToken_19 (by decide) (fun c => absurd c (by decide)) (fun _ => ?_)
    exact J_22 _ s.heap locs ls v1776 v1768 (kk + 1) rfl (lv_sub hl [0, 1, 2, 3, 4, 5] rfl) ⟨by omega, by omega⟩ ⟨by omega, by omega⟩ ⟨by omega, by omega⟩ ⟨by omega, by omega⟩ (by omega) (⟨by omega, by omega⟩) (fun j h1 h2 => by rw [show j = kk by omega]; unfold tk_lt; omega) (⟨⟨by omega, ⟨a1, hf2, hq3, hA4⟩, ⟨a5, hf6, hq7, hA8⟩, ⟨a9, hf10, hq11, hA12⟩, ⟨w13, hg14, by first | omega | decide⟩⟩, hTC, hCK⟩) hI hS
  · skip
    try simp only [rg, not_and, Int.not_le] at hp
    have hp1786 := hp
    refine lv_if_eq (tgt := 60) hx hb dX3_readToken_19 (by decide) (fun _ => ?_) (fun c => absurd c (by decide))
    refine lv_aload_n hx hb dX3_readToken_60 rfl (lv_at hl 3 rfl) ?_
    refine lv_iload_n hx hb dX3_readToken_61 rfl (lv_at hl 4 rfl) ?_
    obtain ⟨F1787, hA1788, hP1789⟩ := op_16 hI hp1 List.not_mem_nil
    refine th_iald hx hb hK hA1788 0 rfl (iv_in (X := x2.toInt) rfl (by omega) (by omega)) dX3_readToken_62 (fun v1790 e1791 => ?_)
    have k1792 := tc_at hP1789 e1791 (p := kk) (by omega) (by omega)
    refine th_cSs (As := [.int v1790]) (rest := []) (n := 1) (d := 0) ⟨hx, hb, hml, hown, hts⟩ (c_X3_isDigit l s.heap v1790) wd_704 wd_705 wd_5 wd_706 (by decide +kernel) ⟨by rw [hR]; exact Nat.le_of_ble_eq_true rfl, by rw [hR]; exact Nat.le_of_ble_eq_true rfl⟩ hN hS rfl hl.1 rfl (Nat.le_of_ble_eq_true rfl) dX3_readToken_63 ⟨Nat.zero_le _, Nat.zero_le _⟩ (fun r1793 locs hp hS => ?_)
    rcases hp with ⟨rfl, hp⟩ | ⟨rfl, hp⟩
    · skip
      try simp only [rg, not_and, Int.not_le] at hp
      have hp1794 := hp
      refine lv_if_eq (tgt := 124) hx hb dX3_readToken_66 (by decide) (fun c => absurd c (by decide)) (fun _ => ?_)
      exact J_69 _ s.heap locs ls v1776 v1768 (kk + 1) rfl (lv_sub hl [0, 1, 2, 3, 4, 5] rfl) ⟨by omega, by omega⟩ ⟨by omega, by omega⟩ ⟨by omega, by omega⟩ ⟨by omega, by omega⟩ (by omega) (⟨by omega, by omega⟩) (fun j h1 h2 => by rw [show j = kk by omega]; unfold tk_dg; omega) (VC.ini (by unfold tk_dg; omega) (by omega)) (⟨⟨by omega, ⟨a1, hf2, hq3, hA4⟩, ⟨a5, hf6, hq7, hA8⟩, ⟨a9, hf10, hq11, hA12⟩, ⟨w13, hg14, by first | omega | decide⟩⟩, hTC, hCK⟩) hI hS
    · skip
      try simp only [rg, not_and, Int.not_le] at hp
      have hp1795 := hp
      refine lv_if_eq (tgt := 124) hx hb dX3_readToken_66 (by decide) (fun _ => ?_) (fun c => absurd c (by decide))
      have hct : (∀ j, kk < j → j < kk + 1 → tk_ct (tC E p1) j) ∧ (kk + 1 = sz ∨ ¬ tk_ct (tC E p1) (kk + 1)) := tk_ot_ct (by unfold tk_lt; omega) (by unfold tk_dg; omega)
      refine lv_aload_n hx hb dX3_readToken_124 rfl (lv_at hl 2 rfl) ?_
      refine lv_aload_n hx hb dX3_readToken_125 rfl (lv_at hl 3 rfl) ?_
      refine lv_iload_n hx hb dX3_readToken_126 rfl (lv_at hl 4 rfl) ?_
      obtain ⟨F1796, hA1797, hP1798⟩ := op_16 hI hp1 List.not_mem_nil
      refine th_iald hx hb hK hA1797 0 rfl (iv_in (X := x2.toInt) rfl (by omega) (by omega)) dX3_readToken_127 (fun v1799 e1800 => ?_)
      have k1801 := tc_at hP1798 e1800 (p := kk) (by omega) (by omega)
      refine lv_iload_n hx hb dX3_readToken_128 rfl (lv_at hl 4 rfl) ?_
      refine lv_iconst (v := 0) hx hb dX3_readToken_129 (by decide) ?_
      refine nx_v (As := [.int v1799, .int x2, .int 0]) (rest := []) (n := 3) (d := 0) ⟨hx, hb, hml, hown, hts⟩ (c_X3_addToken l E D G h0 hG0 v1799 x2 0 ft fp fn tt (by omega)) wd_700 wd_702 wp_12 wd_5 wd_703 (by decide +kernel) ⟨by rw [hR]; exact Nat.le_of_ble_eq_true rfl, by rw [hR]; exact Nat.le_of_ble_eq_true rfl⟩ hI hN hK hS hG0 (⟨by omega, ⟨a1, hf2, hq3, hA4⟩, ⟨a5, hf6, hq7, hA8⟩, ⟨a9, hf10, hq11, hA12⟩, ⟨w13, hg14, by first | omega | decide⟩⟩) rfl hl.1 rfl (Nat.le_of_ble_eq_true rfl) dX3_readToken_130 ⟨Nat.zero_le _, Nat.zero_le _⟩ (fun H locs hI hp hS => ?_)
      obtain ⟨fa1803, fb1804, fc1805, hE, hAT1806⟩ := hp
      obtain ⟨ht401, ⟨a1807, hf1808, hq1809, hA1810⟩, ⟨a1811, hf1812, hq1813, hA1814⟩, ⟨a1815, hf1816, hq1817, hA1818⟩, ⟨w1819, hg1820, k1821⟩⟩ := hE
      have hTC9 := TC_tok hTC hAT1806 (by omega) hb32 (by omega) (by omega) hct (by omega) (Or.inr (Or.inr ⟨by unfold tk_lt; omega, by unfold tk_dg; omega, by rw [show zc (v1799).toInt = 100 + (v1799).toInt from zc_b (by omega)]; omega⟩)) (fun z => by exfalso; unfold tk_dg at z; omega)
      have hCK9 := CKI_tok hCK hAT1806 (zc_ck (by omega))
      refine lv_iload hx hb dX3_readToken_133 (lv_at hl 1 rfl) ?_
      have hpost : ∃ (ft' fp' fn' : Nat → Int32) (ee : Nat), (v1768 : Int32).toInt = (ee : Int) ∧ kk < ee ∧ ee ≤ sz ∧ RT E D G h0 ft' fp' fn' (tt + 1) H ∧ TC_ E p1 sz fp' ft' fn' ee (tt + 1) ∧ CKI ft' (tt + 1) := ⟨fa1803, fb1804, fc1805, (kk + 1), by omega, by omega, by omega, ⟨by omega, ⟨a1807, hf1808, hq1809, hA1810⟩, ⟨a1811, hf1812, hq1813, hA1814⟩, ⟨a1815, hf1816, hq1817, hA1818⟩, ⟨w1819, hg1820, by first | omega | decide⟩⟩, hTC9, hCK9⟩
      rw [hQ]
      exact W.iret (v := v1768) hx hb hr (fun t ht hW => ⟨⟨v1768, v1768, rfl, rfl, ⟨by rw [ht]; exact hI, hN.warm hW, va_K.moved hW.alike hK⟩, by first | (rw [ht]; exact hpost) | exact hpost⟩, hS.F ht⟩) hS.2.2 dX3_readToken_135
