
/-! ===== draws: the sequence, and how many are under a rate (not compiled yet) ===== -/
def wS (a : Nat) : Nat → Nat
  | 0 => a
  | h + 1 => (1103 * wS a h + 12345) % 1000003
theorem wS_le {a : Nat} (ha : a ≤ 1000000) : ∀ h, wS a h ≤ 1000002
  | 0 => by unfold wS; omega
  | h + 1 => by unfold wS; omega
def wC (a : Nat) (r : Int) : Nat → Nat
  | 0 => 0
  | h + 1 => wC a r h + (if ((wS a (h + 1) % 100 : Nat) : Int) < r then 1 else 0)
theorem wC_le {a : Nat} {r : Int} : ∀ h, wC a r h ≤ h
  | 0 => Nat.le_refl _
  | h + 1 => by have := wC_le (a := a) (r := r) h; unfold wC; split <;> omega
theorem wS_s {a h : Nat} : wS a (h + 1) = (1103 * wS a h + 12345) % 1000003 := rfl
theorem wC_t {a h : Nat} {r : Int} (e : ((wS a (h + 1) % 100 : Nat) : Int) < r) : wC a r (h + 1) = wC a r h + 1 := by
  show wC a r h + _ = _
  rw [if_pos e]
theorem wC_f {a h : Nat} {r : Int} (e : ¬ ((wS a (h + 1) % 100 : Nat) : Int) < r) : wC a r (h + 1) = wC a r h := by
  show wC a r h + _ = _
  rw [if_neg e]
  rfl
section IL
variable {x y z : Int64} {X Y : Int}
theorem il_bm {i : Int} (h1 : -9223372036854775808 ≤ i) (h2 : i ≤ 9223372036854775807) : i.bmod (2 ^ 64) = i := Int.bmod_eq_of_le (by omega) (by omega)
theorem il_i2l {w : Int32} (e : z = w.toInt64) : z.toInt = w.toInt := by rw [e]; exact Int32.toInt_toInt64 w
theorem il_add (hx : x.toInt = X) (hy : y.toInt = Y) (e : z = x + y) (h1 : -9223372036854775808 ≤ X + Y) (h2 : X + Y ≤ 9223372036854775807) : z.toInt = X + Y := by rw [e, Int64.toInt_add, hx, hy]; exact il_bm h1 h2
theorem il_sub (hx : x.toInt = X) (hy : y.toInt = Y) (e : z = x - y) (h1 : -9223372036854775808 ≤ X - Y) (h2 : X - Y ≤ 9223372036854775807) : z.toInt = X - Y := by rw [e, Int64.toInt_sub, hx, hy]; exact il_bm h1 h2
theorem il_mul (hx : x.toInt = X) (hy : y.toInt = Y) (e : z = x * y) (h1 : -9223372036854775808 ≤ X * Y) (h2 : X * Y ≤ 9223372036854775807) : z.toInt = X * Y := by rw [e, Int64.toInt_mul, hx, hy]; exact il_bm h1 h2
theorem il_rem (hx : x.toInt = X) (hy : y.toInt = Y) (e : z = x - x / y * y) (h0 : 0 ≤ X) (h1 : 0 < Y) : z.toInt = X % Y := by
  have b1 := Int64.toInt_lt x
  have k1 : 0 ≤ X / Y := Int.ediv_nonneg h0 (Int.le_of_lt h1)
  have k2 : X / Y * Y ≤ X := Int.ediv_mul_le X (Int.ne_of_gt h1)
  have k3 : 0 ≤ X / Y * Y := Int.mul_nonneg k1 (Int.le_of_lt h1)
  have k4 : X / Y ≤ X := Int.ediv_le_self Y h0
  have d : (x / y).toInt = X / Y := by
    rw [Int64.toInt_div, hx, hy, Int.tdiv_eq_ediv_of_nonneg h0]
    exact il_bm (by omega) (by omega)
  have m := il_mul (z := x / y * y) d hy rfl (by omega) (by omega)
  have s := il_sub hx m e (by omega) (by omega)
  rw [s, Int.emod_def, Int.mul_comm Y]
theorem il_cmp {w : Int32} (hx : x.toInt = X) (hy : y.toInt = Y) (e : w = lg_cmp x y) : (w.toInt = 1 ∧ Y < X) ∨ (w.toInt = 0 ∧ X = Y) ∨ (w.toInt = -1 ∧ X < Y) := by
  rcases iv_cmp e with ⟨a, b⟩ | ⟨a, b⟩ | ⟨a, b, c⟩
  · exact Or.inl ⟨a, by have := Int64.lt_iff_toInt_lt.mp b; omega⟩
  · exact Or.inr (Or.inl ⟨a, by rw [← hx, ← hy, b]⟩)
  · refine Or.inr (Or.inr ⟨a, ?_⟩)
    have h1 := mt Int64.lt_iff_toInt_lt.mpr b
    have h2 : x.toInt ≠ y.toInt := fun q => c (Int64.toInt_inj.mp q)
    omega
theorem il_l2i {w : Int32} (hx : x.toInt = X) (e : w = x.toInt32) (h1 : -2147483648 ≤ X) (h2 : X ≤ 2147483647) : w.toInt = X := by
  rw [e, Int64.toInt_toInt32, hx]
  exact rg_bm h1 h2
end IL

set_option maxHeartbeats 4000000 in
set_option maxRecDepth 100000 in
theorem c_X9_drawWeekx (l : Launch) (E : Nat → ClassId) (D : va_G) (G : th_G) (h0 : Nat) (hG0 : G h0 = some (10, 0)) (x1 x2 : Int32) (p3 : Nat) (hp3 : G p3 = some (0, 24)) (hx1 : (0 : Int) ≤ x1.toInt ∧ x1.toInt ≤ 1000000) (hx2 : (0 : Int) ≤ x2.toInt ∧ x2.toInt ≤ 100) : Met l yX9_drawWeek (tb (.code yX9_drawWeek cX9_drawWeek 9 (some .int))) (rm 7) (va_Pc [.ref h0, .int x1, .int x2, .ref p3] (th_P E D G)) (QI E D G (fun r => (r : Int32) = nI (wC x1.toInt.toNat x2.toInt 96))) 0 0 (th_A G) := by
  refine Met.ofW (cc := cX9_drawWeek) (maxL := 9) (ret := (some .int)) (by decide) rfl ?_
  intro p e s m args below meth c s₁ B hml hv
  obtain ⟨hav, hI, hN, hK⟩ := hv
  have hx := B.exec
  have hb := B.bytes
  have hr := B.returns
  have hts := atoms_spec (ws := tb (.code yX9_drawWeek cX9_drawWeek 9 (some .int))) B.pre
  have hown : s.vm.findClass RX9 = some m.cls := findClass_of_methodNamed B.named
  have hlocks := B.notSynchronized
  have hS : va_S (th_A G) s.heap s.heap [] := va_S.rf
  have hl := lv_entry ([.ref h0, .int x1, .int x2, .ref p3]) (n := 9) (Nat.le_of_ble_eq_true rfl)
  rw [show entryFrame m args 9 = entryFrame m ([.ref h0, .int x1, .int x2, .ref p3] : List Value).toArray 9 from by rw [hav], lg_entry_eq]
  generalize (lg_sl ([.ref h0, .int x1, .int x2, .ref p3]) ++ List.replicate (9 - (lg_sl ([.ref h0, .int x1, .int x2, .ref p3])).length) Slot.unset).toArray = ls at hl ⊢
  have hl : lv_has ls 9 [(0, .ref h0), (1, .int x1), (2, .int x2), (3, .ref p3)] := hl
  generalize hR : (headSpec (tb (.code yX9_drawWeek cX9_drawWeek 9 (some .int))) (rm 7)).room = R
  have hR := hR.symm
  generalize hQ : MQ below (QI E D G (fun r => (r : Int32) = nI (wC x1.toInt.toNat x2.toInt 96))) args s 0 0 (th_A G) = QF
  have hQ := hQ.symm
  have J_32 : ∀ (nn : Nat) (H : Heap) (locs : List Loc) (ls : Array Slot) (v514 : Int32) (v515 : Int32) (l516 : Int64), (Int.toNat (96 - v514.toInt) = nn) → lv_has ls 9 [(7, .int v514), (6, .int v515), (4, .long l516), (0, .ref h0), (1, .int x1), (2, .int x2), (3, .ref p3)] → ((0 : Int) ≤ v514.toInt ∧ v514.toInt ≤ 96) → ((0 : Int) ≤ v515.toInt ∧ v515.toInt ≤ 96) → ((0 : Int) ≤ l516.toInt ∧ l516.toInt ≤ 1000002) → ((0 : Int) ≤ x1.toInt ∧ x1.toInt ≤ 1000000) → ((0 : Int) ≤ x2.toInt ∧ x2.toInt ≤ 100) → (l516.toInt = ((wS x1.toInt.toNat v514.toInt.toNat : Nat) : Int)) → (v515.toInt = ((wC x1.toInt.toNat x2.toInt v514.toInt.toNat : Nat) : Int)) → (v515.toInt ≤ v514.toInt) → th_I (okC E) D G [] H → va_S (th_A G) s.heap H locs → W p l e R s m args below meth c H locs 0 0 QF (F0 m 32 ls []) := by
    intro nn
    induction nn using Nat.strongRecOn with
    | ind nn ih_32 =>
      intro H locs ls v514 v515 l516 hm hl k517 k518 k519 k520 k521 k522 k523 k524 hI hS
      refine lv_iload hx hb dX9_drawWeek_32 (lv_at hl 0 rfl) ?_
      refine lv_bipush (v := 96) hx hb dX9_drawWeek_34 (by decide) ?_
      refine lv_icmp_ge (tgt := 96) hx hb dX9_drawWeek_36 (by decide) (fun c525 => ?_) (fun c525 => ?_)
      · skip
        have k526 := iv_le (X := (96)) (Y := v514.toInt) (by decide) rfl c525
        refine lv_iload hx hb dX9_drawWeek_96 (lv_at hl 1 rfl) ?_
        have hpost : (v515 : Int32) = nI (wC x1.toInt.toNat x2.toInt 96) := Int32.toInt_inj.mp (by have hw := wC_le (a := x1.toInt.toNat) (r := x2.toInt) 96; rw [nI_toInt (by omega), show (96 : Nat) = v514.toInt.toNat by omega]; omega)
        rw [hQ]
        exact W.iret (v := v515) hx hb hr (fun t ht hW => ⟨⟨v515, (), rfl, hpost, by rw [ht]; exact hI, hN.warm hW, va_K.moved hW.alike hK⟩, hS.F ht⟩) hS.2.2 dX9_drawWeek_98
      · skip
        have k527 := iv_nle (X := (96)) (Y := v514.toInt) (by decide) rfl c525
        refine lv_lload hx hb dX9_drawWeek_39 (lv_at hl 2 rfl) ?_
        refine lv_ldc2 hx hb hown (hts _ (tb_c wd_1186)) dX9_drawWeek_41 ?_
        refine lv_topl (fun l528 e529 => ?_)
        have tl528 : l528.toInt = 1103 := by rw [e529]; decide
        refine lv_lmul hx hb dX9_drawWeek_44 ?_
        refine lv_topl (fun l530 e531 => ?_)
        have tl530 : l530.toInt = l516.toInt * (1103) := il_mul (X := l516.toInt) (Y := (1103)) rfl tl528 e531 (by omega) (by omega)
        refine lv_ldc2 hx hb hown (hts _ (tb_c wd_1187)) dX9_drawWeek_45 ?_
        refine lv_topl (fun l532 e533 => ?_)
        have tl532 : l532.toInt = 12345 := by rw [e533]; decide
        refine lv_ladd hx hb dX9_drawWeek_48 ?_
        refine lv_topl (fun l534 e535 => ?_)
        have tl534 : l534.toInt = l530.toInt + (12345) := il_add (X := l530.toInt) (Y := (12345)) rfl tl532 e535 (by omega) (by omega)
        refine lv_ldc2 hx hb hown (hts _ (tb_c wd_1188)) dX9_drawWeek_49 ?_
        refine lv_topl (fun l536 e537 => ?_)
        have tl536 : l536.toInt = 1000003 := by rw [e537]; decide
        refine lv_lrem hx hb dX9_drawWeek_52 (by rw [e537]; decide) ?_
        refine lv_topl (fun l538 e539 => ?_)
        have tl538 : l538.toInt = l534.toInt % 1000003 := il_rem (X := l534.toInt) (Y := 1000003) rfl tl536 e539 (by omega) (by omega)
        refine lv_lstore (lv' := [(4, .long l538), (7, .int v514), (6, .int v515), (0, .ref h0), (1, .int x1), (2, .int x2), (3, .ref p3)]) hx hb dX9_drawWeek_53 hl (by decide) rfl (fun ls hl => ?_)
        refine lv_lload hx hb dX9_drawWeek_55 (lv_at hl 0 rfl) ?_
        refine lv_ldc2 hx hb hown (hts _ (tb_c wd_1189)) dX9_drawWeek_57 ?_
        refine lv_topl (fun l540 e541 => ?_)
        have tl540 : l540.toInt = 100 := by rw [e541]; decide
        refine lv_lrem hx hb dX9_drawWeek_60 (by rw [e541]; decide) ?_
        refine lv_topl (fun l542 e543 => ?_)
        have tl542 : l542.toInt = l538.toInt % 100 := il_rem (X := l538.toInt) (Y := 100) rfl tl540 e543 (by omega) (by omega)
        refine lv_iload_n hx hb dX9_drawWeek_61 rfl (lv_at hl 5 rfl) ?_
        refine lv_i2l hx hb dX9_drawWeek_62 rfl ?_
        refine lv_topl (fun l544 e545 => ?_)
        have tl544 : l544.toInt = x2.toInt := il_i2l e545
        refine W.lcmp hx hb dX9_drawWeek_63 ?_
        refine lv_topi (fun v548 e547 => ?_)
        have tv548 := il_cmp (X := l542.toInt) (Y := l544.toInt) rfl rfl e547
        refine lv_if_ge (tgt := 71) hx hb dX9_drawWeek_64 (by decide) (fun c549 => ?_) (fun c549 => ?_)
        · skip
          have k550 := iv_le (X := (0)) (Y := v548.toInt) (by decide) rfl c549
          refine lv_iconst (v := 0) hx hb dX9_drawWeek_71 (by decide) ?_
          refine lv_istore (lv' := [(8, .int 0), (4, .long l538), (7, .int v514), (6, .int v515), (0, .ref h0), (1, .int x1), (2, .int x2), (3, .ref p3)]) hx hb dX9_drawWeek_72 hl (by decide) rfl (fun ls hl => ?_)
          refine lv_iload hx hb dX9_drawWeek_74 (lv_at hl 3 rfl) ?_
          refine lv_iload hx hb dX9_drawWeek_76 (lv_at hl 0 rfl) ?_
          refine lv_iadd hx hb dX9_drawWeek_78 ?_
          refine lv_topi (fun v551 e552 => ?_)
          have tv551 : v551.toInt = v515.toInt + (0) := iv_add rfl (by decide) e552 (by omega) (by omega)
          refine lv_istore (lv' := [(6, .int v551), (8, .int 0), (4, .long l538), (7, .int v514), (0, .ref h0), (1, .int x1), (2, .int x2), (3, .ref p3)]) hx hb dX9_drawWeek_79 hl (by decide) rfl (fun ls hl => ?_)
          refine lv_aload_n hx hb dX9_drawWeek_81 rfl (lv_at hl 4 rfl) ?_
          refine lv_aload_n hx hb dX9_drawWeek_82 rfl (lv_at hl 7 rfl) ?_
          refine lv_iload hx hb dX9_drawWeek_83 (lv_at hl 3 rfl) ?_
          refine lv_iload hx hb dX9_drawWeek_85 (lv_at hl 1 rfl) ?_
          refine th_cVv (As := [.ref p3, .int v514, .int 0]) (rest := []) (n := 3) (d := 6) ⟨hx, hb, hml, hown, hts⟩ (c_X9_stepAll l E D G h0 hG0 p3 hp3 v514 0) wd_1190 wd_1192 wp_39 wd_8 wd_1193 (by decide +kernel) ⟨by rw [hR]; exact Nat.le_of_ble_eq_true rfl, by rw [hR]; exact Nat.le_of_ble_eq_true rfl⟩ hI hN hK hS (rc_10 hI hG0 List.not_mem_nil) rfl rfl hl.1 rfl (Nat.le_of_ble_eq_true rfl) dX9_drawWeek_87 ⟨Nat.zero_le _, Nat.zero_le _⟩ (fun H locs hI hS => ?_)
          obtain ⟨v554, e555⟩ : ∃ y : Int32, y = v514 + (1) := ⟨_, rfl⟩
          have tv554 : v554.toInt = v514.toInt + (1) := iv_add rfl (by decide) e555 (by omega) (by omega)
          refine lv_iinc (v := v554) (lv' := [(7, .int v554), (6, .int v551), (8, .int 0), (4, .long l538), (0, .ref h0), (1, .int x1), (2, .int x2), (3, .ref p3)]) hx hb dX9_drawWeek_90 hl (k := 3) rfl (by rw [e555]; rfl) (by decide) rfl (fun ls hl => ?_)
          refine lv_goto (tgt := 32) hx hb dX9_drawWeek_93 (by decide) ?_
          exact ih_32 _ (by omega) H locs ls v554 v551 l538 rfl (lv_sub hl [0, 1, 3, 4, 5, 6, 7] rfl) ⟨by omega, by omega⟩ ⟨by omega, by omega⟩ ⟨by omega, by omega⟩ ⟨by omega, by omega⟩ ⟨by omega, by omega⟩ (by rw [show v554.toInt.toNat = v514.toInt.toNat + 1 by omega, wS_s]; omega) (by (have ew : ((wS x1.toInt.toNat (v514.toInt.toNat + 1) : Nat) : Int) = l538.toInt := (by rw [wS_s]; omega); rw [show v554.toInt.toNat = v514.toInt.toNat + 1 by omega]; first | (rw [wC_t (by omega)]; omega) | (rw [wC_f (by omega)]; omega))) (by omega) hI hS
        · skip
          have k556 := iv_nle (X := (0)) (Y := v548.toInt) (by decide) rfl c549
          refine lv_iconst (v := 1) hx hb dX9_drawWeek_67 (by decide) ?_
          refine lv_goto (tgt := 72) hx hb dX9_drawWeek_68 (by decide) ?_
          refine lv_istore (lv' := [(8, .int 1), (4, .long l538), (7, .int v514), (6, .int v515), (0, .ref h0), (1, .int x1), (2, .int x2), (3, .ref p3)]) hx hb dX9_drawWeek_72 hl (by decide) rfl (fun ls hl => ?_)
          refine lv_iload hx hb dX9_drawWeek_74 (lv_at hl 3 rfl) ?_
          refine lv_iload hx hb dX9_drawWeek_76 (lv_at hl 0 rfl) ?_
          refine lv_iadd hx hb dX9_drawWeek_78 ?_
          refine lv_topi (fun v557 e558 => ?_)
          have tv557 : v557.toInt = v515.toInt + (1) := iv_add rfl (by decide) e558 (by omega) (by omega)
          refine lv_istore (lv' := [(6, .int v557), (8, .int 1), (4, .long l538), (7, .int v514), (0, .ref h0), (1, .int x1), (2, .int x2), (3, .ref p3)]) hx hb dX9_drawWeek_79 hl (by decide) rfl (fun ls hl => ?_)
          refine lv_aload_n hx hb dX9_drawWeek_81 rfl (lv_at hl 4 rfl) ?_
          refine lv_aload_n hx hb dX9_drawWeek_82 rfl (lv_at hl 7 rfl) ?_
          refine lv_iload hx hb dX9_drawWeek_83 (lv_at hl 3 rfl) ?_
          refine lv_iload hx hb dX9_drawWeek_85 (lv_at hl 1 rfl) ?_
          refine th_cVv (As := [.ref p3, .int v514, .int 1]) (rest := []) (n := 3) (d := 6) ⟨hx, hb, hml, hown, hts⟩ (c_X9_stepAll l E D G h0 hG0 p3 hp3 v514 1) wd_1190 wd_1192 wp_39 wd_8 wd_1193 (by decide +kernel) ⟨by rw [hR]; exact Nat.le_of_ble_eq_true rfl, by rw [hR]; exact Nat.le_of_ble_eq_true rfl⟩ hI hN hK hS (rc_10 hI hG0 List.not_mem_nil) rfl rfl hl.1 rfl (Nat.le_of_ble_eq_true rfl) dX9_drawWeek_87 ⟨Nat.zero_le _, Nat.zero_le _⟩ (fun H locs hI hS => ?_)
          obtain ⟨v560, e561⟩ : ∃ y : Int32, y = v514 + (1) := ⟨_, rfl⟩
          have tv560 : v560.toInt = v514.toInt + (1) := iv_add rfl (by decide) e561 (by omega) (by omega)
          refine lv_iinc (v := v560) (lv' := [(7, .int v560), (6, .int v557), (8, .int 1), (4, .long l538), (0, .ref h0), (1, .int x1), (2, .int x2), (3, .ref p3)]) hx hb dX9_drawWeek_90 hl (k := 3) rfl (by rw [e561]; rfl) (by decide) rfl (fun ls hl => ?_)
          refine lv_goto (tgt := 32) hx hb dX9_drawWeek_93 (by decide) ?_
          exact ih_32 _ (by omega) H locs ls v560 v557 l538 rfl (lv_sub hl [0, 1, 3, 4, 5, 6, 7] rfl) ⟨by omega, by omega⟩ ⟨by omega, by omega⟩ ⟨by omega, by omega⟩ ⟨by omega, by omega⟩ ⟨by omega, by omega⟩ (by rw [show v560.toInt.toNat = v514.toInt.toNat + 1 by omega, wS_s]; omega) (by (have ew : ((wS x1.toInt.toNat (v514.toInt.toNat + 1) : Nat) : Int) = l538.toInt := (by rw [wS_s]; omega); rw [show v560.toInt.toNat = v514.toInt.toNat + 1 by omega]; first | (rw [wC_t (by omega)]; omega) | (rw [wC_f (by omega)]; omega))) (by omega) hI hS
  have J_3 : ∀ (nn : Nat) (H : Heap) (locs : List Loc) (ls : Array Slot) (v562 : Int32), (Int.toNat (24 - v562.toInt) = nn) → lv_has ls 9 [(4, .int v562), (0, .ref h0), (1, .int x1), (2, .int x2), (3, .ref p3)] → ((0 : Int) ≤ v562.toInt ∧ v562.toInt ≤ 24) → ((0 : Int) ≤ x1.toInt ∧ x1.toInt ≤ 1000000) → ((0 : Int) ≤ x2.toInt ∧ x2.toInt ≤ 100) → th_I (okC E) D G [] H → va_S (th_A G) s.heap H locs → W p l e R s m args below meth c H locs 0 0 QF (F0 m 3 ls []) := by
    intro nn
    induction nn using Nat.strongRecOn with
    | ind nn ih_3 =>
      intro H locs ls v562 hm hl k563 k564 k565 hI hS
      refine lv_iload hx hb dX9_drawWeek_3 (lv_at hl 0 rfl) ?_
      refine lv_aload_n hx hb dX9_drawWeek_5 rfl (lv_at hl 4 rfl) ?_
      obtain ⟨_, hA566⟩ := op_0 hI hp3 List.not_mem_nil
      refine va_alen hx hb hK (th_one hA566) 0 0 rfl (v := 24) rfl (show Int32.ofNat 24 = (24 : Int32) from by decide) dX9_drawWeek_6 ?_
      refine lv_icmp_ge (tgt := 22) hx hb dX9_drawWeek_7 (by decide) (fun c567 => ?_) (fun c567 => ?_)
      · skip
        have k568 := iv_le (X := (24)) (Y := v562.toInt) (by decide) rfl c567
        refine lv_iload_n hx hb dX9_drawWeek_22 rfl (lv_at hl 2 rfl) ?_
        refine lv_i2l hx hb dX9_drawWeek_23 rfl ?_
        refine lv_topl (fun l569 e570 => ?_)
        have tl569 : l569.toInt = x1.toInt := il_i2l e570
        refine lv_lstore (lv' := [(4, .long l569), (0, .ref h0), (1, .int x1), (2, .int x2), (3, .ref p3)]) hx hb dX9_drawWeek_24 hl (by decide) rfl (fun ls hl => ?_)
        refine lv_iconst (v := 0) hx hb dX9_drawWeek_26 (by decide) ?_
        refine lv_istore (lv' := [(6, .int 0), (4, .long l569), (0, .ref h0), (1, .int x1), (2, .int x2), (3, .ref p3)]) hx hb dX9_drawWeek_27 hl (by decide) rfl (fun ls hl => ?_)
        refine lv_iconst (v := 0) hx hb dX9_drawWeek_29 (by decide) ?_
        refine lv_istore (lv' := [(7, .int 0), (6, .int 0), (4, .long l569), (0, .ref h0), (1, .int x1), (2, .int x2), (3, .ref p3)]) hx hb dX9_drawWeek_30 hl (by decide) rfl (fun ls hl => ?_)
        have zl : (0 : Int32).toInt = 0 := by decide
        exact J_32 _ H locs ls 0 0 l569 rfl (lv_sub hl [0, 1, 2, 3, 4, 5, 6] rfl) ⟨by decide, by decide⟩ ⟨by decide, by decide⟩ ⟨by omega, by omega⟩ ⟨by omega, by omega⟩ ⟨by omega, by omega⟩ (by rw [show (0 : Int32).toInt.toNat = 0 from by decide]; show _ = ((x1.toInt.toNat : Nat) : Int); omega) (by rw [show (0 : Int32).toInt.toNat = 0 from by decide]; show (0 : Int32).toInt = ((0 : Nat) : Int); decide) (by omega) hI hS
      · skip
        have k571 := iv_nle (X := (24)) (Y := v562.toInt) (by decide) rfl c567
        refine lv_aload_n hx hb dX9_drawWeek_10 rfl (lv_at hl 4 rfl) ?_
        refine lv_iload hx hb dX9_drawWeek_11 (lv_at hl 0 rfl) ?_
        refine lv_iload hx hb dX9_drawWeek_13 (lv_at hl 0 rfl) ?_
        obtain ⟨_, hA572⟩ := op_0 hI hp3 List.not_mem_nil
        refine th_iast hx hb hK hA572 0 rfl hS ⟨_, hp3⟩ (iv_in (X := v562.toInt) rfl (by omega) (by omega)) dX9_drawWeek_15 (fun H locs hA572 oq hS => ?_)
        have hI := th_I.put hI hp3 hA572 ok_0 oq
        obtain ⟨v573, e574⟩ : ∃ y : Int32, y = v562 + (1) := ⟨_, rfl⟩
        have tv573 : v573.toInt = v562.toInt + (1) := iv_add rfl (by decide) e574 (by omega) (by omega)
        refine lv_iinc (v := v573) (lv' := [(4, .int v573), (0, .ref h0), (1, .int x1), (2, .int x2), (3, .ref p3)]) hx hb dX9_drawWeek_16 hl (k := 0) rfl (by rw [e574]; rfl) (by decide) rfl (fun ls hl => ?_)
        refine lv_goto (tgt := 3) hx hb dX9_drawWeek_19 (by decide) ?_
        exact ih_3 _ (by omega) H locs ls v573 rfl (lv_sub hl [0, 1, 2, 3, 4] rfl) ⟨by omega, by omega⟩ ⟨by omega, by omega⟩ ⟨by omega, by omega⟩ hI hS
  refine lv_iconst (v := 0) hx hb dX9_drawWeek_0 (by decide) ?_
  refine lv_istore (lv' := [(4, .int 0), (0, .ref h0), (1, .int x1), (2, .int x2), (3, .ref p3)]) hx hb dX9_drawWeek_1 hl (by decide) rfl (fun ls hl => ?_)
  have zl : (0 : Int32).toInt = 0 := by decide
  exact J_3 _ s.heap [] ls 0 rfl (lv_sub hl [0, 1, 2, 3, 4] rfl) ⟨by decide, by decide⟩ ⟨by omega, by omega⟩ ⟨by omega, by omega⟩ hI hS
set_option maxHeartbeats 4000000 in
set_option maxRecDepth 100000 in
theorem c_X11_weekx (l : Launch) (E : Nat → ClassId) (D : va_G) (G : th_G) (h0 n : Nat) (hG0 : G h0 = some (15, n)) (x1 x2 : Int32) : Met l yX11_week (tb (.code yX11_week cX11_week 3 (some .int))) (rm 8) (va_Pc [.ref h0, .int x1, .int x2] (th_P E D G)) (QI E D G (fun r => ((r : Int32) = -1 ∧ ¬ (rg x1 0 1000000 ∧ rg x2 0 100)) ∨ ((r : Int32) = nI (wC x1.toInt.toNat x2.toInt 96) ∧ (rg x1 0 1000000 ∧ rg x2 0 100)))) 0 0 (th_A G) := by
  refine Met.ofW (cc := cX11_week) (maxL := 3) (ret := (some .int)) (by decide) rfl ?_
  intro p e s m args below meth c s₁ B hml hv
  obtain ⟨hav, hI, hN, hK⟩ := hv
  have hx := B.exec
  have hb := B.bytes
  have hr := B.returns
  have hts := atoms_spec (ws := tb (.code yX11_week cX11_week 3 (some .int))) B.pre
  have hown : s.vm.findClass RX11 = some m.cls := findClass_of_methodNamed B.named
  have hlocks := B.notSynchronized
  have hS : va_S (th_A G) s.heap s.heap [] := va_S.rf
  have hl := lv_entry ([.ref h0, .int x1, .int x2]) (n := 3) (Nat.le_of_ble_eq_true rfl)
  rw [show entryFrame m args 3 = entryFrame m ([.ref h0, .int x1, .int x2] : List Value).toArray 3 from by rw [hav], lg_entry_eq]
  generalize (lg_sl ([.ref h0, .int x1, .int x2]) ++ List.replicate (3 - (lg_sl ([.ref h0, .int x1, .int x2])).length) Slot.unset).toArray = ls at hl ⊢
  have hl : lv_has ls 3 [(0, .ref h0), (1, .int x1), (2, .int x2)] := hl
  generalize hR : (headSpec (tb (.code yX11_week cX11_week 3 (some .int))) (rm 8)).room = R
  have hR := hR.symm
  generalize hQ : MQ below (QI E D G (fun r => ((r : Int32) = -1 ∧ ¬ (rg x1 0 1000000 ∧ rg x2 0 100)) ∨ ((r : Int32) = nI (wC x1.toInt.toNat x2.toInt 96) ∧ (rg x1 0 1000000 ∧ rg x2 0 100)))) args s 0 0 (th_A G) = QF
  have hQ := hQ.symm
  refine lv_iload_n hx hb dX11_week_0 rfl (lv_at hl 1 rfl) ?_
  have k1 := iv_lo x1
  have k2 := iv_hi x1
  refine lv_if_lt (tgt := 21) hx hb dX11_week_1 (by decide) (fun c3 => ?_) (fun c3 => ?_)
  · skip
    have k4 := iv_lt (X := x1.toInt) (Y := (0)) rfl (by decide) c3
    refine lv_aload_n hx hb dX11_week_21 rfl (lv_at hl 0 rfl) ?_
    refine lv_iconst (v := (-1)) hx hb dX11_week_22 (by decide) ?_
    refine th_cVi (As := [.int (-1)]) (rest := []) (n := 1) (d := 0) ⟨hx, hb, hml, hown, hts⟩ (c_X11_refuse l E D G h0 (n) hG0 (-1)) wd_407 wd_409 wp_0 wd_1 wd_410 (by decide +kernel) ⟨by rw [hR]; exact Nat.le_of_ble_eq_true rfl, by rw [hR]; exact Nat.le_of_ble_eq_true rfl⟩ hI hN hK hS (rc_15 hI hG0 List.not_mem_nil) rfl rfl hl.1 rfl (Nat.le_of_ble_eq_true rfl) dX11_week_23 ⟨Nat.zero_le _, Nat.zero_le _⟩ (fun r5 H locs hp hI hS => ?_)
    have hp := hp.symm
    subst hp
    have hpost : (((-1) : Int32) = -1 ∧ ¬ (rg x1 0 1000000 ∧ rg x2 0 100)) ∨ (((-1) : Int32) = nI (wC x1.toInt.toNat x2.toInt 96) ∧ (rg x1 0 1000000 ∧ rg x2 0 100)) := by first | exact Or.inl ⟨rfl, by simp only [rg]; omega⟩ | exact Or.inr ⟨rfl, by simp only [rg]; omega⟩
    rw [hQ]
    exact W.iret (v := (-1)) hx hb hr (fun t ht hW => ⟨⟨(-1), (), rfl, hpost, by rw [ht]; exact hI, hN.warm hW, va_K.moved hW.alike hK⟩, hS.F ht⟩) hS.2.2 dX11_week_26
  · skip
    have k6 := iv_nlt (X := x1.toInt) (Y := (0)) rfl (by decide) c3
    refine lv_iload_n hx hb dX11_week_4 rfl (lv_at hl 1 rfl) ?_
    refine lv_ldcw hx hb hown (hts _ (tb_c wd_1181)) dX11_week_5 ?_
    refine lv_icmp_gt (tgt := 21) hx hb dX11_week_8 (by decide) (fun c7 => ?_) (fun c7 => ?_)
    · skip
      have k8 := iv_lt (X := (1000000)) (Y := x1.toInt) (by decide) rfl c7
      refine lv_aload_n hx hb dX11_week_21 rfl (lv_at hl 0 rfl) ?_
      refine lv_iconst (v := (-1)) hx hb dX11_week_22 (by decide) ?_
      refine th_cVi (As := [.int (-1)]) (rest := []) (n := 1) (d := 0) ⟨hx, hb, hml, hown, hts⟩ (c_X11_refuse l E D G h0 (n) hG0 (-1)) wd_407 wd_409 wp_0 wd_1 wd_410 (by decide +kernel) ⟨by rw [hR]; exact Nat.le_of_ble_eq_true rfl, by rw [hR]; exact Nat.le_of_ble_eq_true rfl⟩ hI hN hK hS (rc_15 hI hG0 List.not_mem_nil) rfl rfl hl.1 rfl (Nat.le_of_ble_eq_true rfl) dX11_week_23 ⟨Nat.zero_le _, Nat.zero_le _⟩ (fun r9 H locs hp hI hS => ?_)
      have hp := hp.symm
      subst hp
      have hpost : (((-1) : Int32) = -1 ∧ ¬ (rg x1 0 1000000 ∧ rg x2 0 100)) ∨ (((-1) : Int32) = nI (wC x1.toInt.toNat x2.toInt 96) ∧ (rg x1 0 1000000 ∧ rg x2 0 100)) := by first | exact Or.inl ⟨rfl, by simp only [rg]; omega⟩ | exact Or.inr ⟨rfl, by simp only [rg]; omega⟩
      rw [hQ]
      exact W.iret (v := (-1)) hx hb hr (fun t ht hW => ⟨⟨(-1), (), rfl, hpost, by rw [ht]; exact hI, hN.warm hW, va_K.moved hW.alike hK⟩, hS.F ht⟩) hS.2.2 dX11_week_26
    · skip
      have k10 := iv_nlt (X := (1000000)) (Y := x1.toInt) (by decide) rfl c7
      refine lv_iload_n hx hb dX11_week_11 rfl (lv_at hl 2 rfl) ?_
      have k11 := iv_lo x2
      have k12 := iv_hi x2
      refine lv_if_lt (tgt := 21) hx hb dX11_week_12 (by decide) (fun c13 => ?_) (fun c13 => ?_)
      · skip
        have k14 := iv_lt (X := x2.toInt) (Y := (0)) rfl (by decide) c13
        refine lv_aload_n hx hb dX11_week_21 rfl (lv_at hl 0 rfl) ?_
        refine lv_iconst (v := (-1)) hx hb dX11_week_22 (by decide) ?_
        refine th_cVi (As := [.int (-1)]) (rest := []) (n := 1) (d := 0) ⟨hx, hb, hml, hown, hts⟩ (c_X11_refuse l E D G h0 (n) hG0 (-1)) wd_407 wd_409 wp_0 wd_1 wd_410 (by decide +kernel) ⟨by rw [hR]; exact Nat.le_of_ble_eq_true rfl, by rw [hR]; exact Nat.le_of_ble_eq_true rfl⟩ hI hN hK hS (rc_15 hI hG0 List.not_mem_nil) rfl rfl hl.1 rfl (Nat.le_of_ble_eq_true rfl) dX11_week_23 ⟨Nat.zero_le _, Nat.zero_le _⟩ (fun r15 H locs hp hI hS => ?_)
        have hp := hp.symm
        subst hp
        have hpost : (((-1) : Int32) = -1 ∧ ¬ (rg x1 0 1000000 ∧ rg x2 0 100)) ∨ (((-1) : Int32) = nI (wC x1.toInt.toNat x2.toInt 96) ∧ (rg x1 0 1000000 ∧ rg x2 0 100)) := by first | exact Or.inl ⟨rfl, by simp only [rg]; omega⟩ | exact Or.inr ⟨rfl, by simp only [rg]; omega⟩
        rw [hQ]
        exact W.iret (v := (-1)) hx hb hr (fun t ht hW => ⟨⟨(-1), (), rfl, hpost, by rw [ht]; exact hI, hN.warm hW, va_K.moved hW.alike hK⟩, hS.F ht⟩) hS.2.2 dX11_week_26
      · skip
        have k16 := iv_nlt (X := x2.toInt) (Y := (0)) rfl (by decide) c13
        refine lv_iload_n hx hb dX11_week_15 rfl (lv_at hl 2 rfl) ?_
        refine lv_bipush (v := 100) hx hb dX11_week_16 (by decide) ?_
        refine lv_icmp_le (tgt := 27) hx hb dX11_week_18 (by decide) (fun c17 => ?_) (fun c17 => ?_)
        · skip
          have k18 := iv_le (X := x2.toInt) (Y := (100)) rfl (by decide) c17
          refine lv_aload_n hx hb dX11_week_27 rfl (lv_at hl 0 rfl) ?_
          refine lv_iconst (v := 1) hx hb dX11_week_28 (by decide) ?_
          obtain ⟨a19, a22, a24, a26, a28, a30, a32, a34, a36, a38, a40, w42, w45, w46, w47, w48, hO, hq20, hq21, hq23, hq25, hq27, hq29, hq31, hq33, hq35, hq37, hq39, hq41, ⟨k43, k44⟩⟩ := op_15 hI hG0 List.not_mem_nil
          have hI := th_I.weak (a := h0) hI
          refine th_put (ty := .boolean) hx hb hts inT11 tyX11 tyX11_ok nmX11 hown hK hO hS ⟨_, hG0⟩ rfl 16 (by decide) (hts _ (tb_c wd_361)) rfl rfl (by decide +kernel) (by decide) rfl (Nat.le_of_ble_eq_true rfl) dX11_week_29 (fun H locs hO oq hS => ?_)
          have hI := th_I.moved hI oq
          have hO : va_at D vwCl (h0, .inr (11, [.ref a19, .ref n, .ref a22, .ref a24, .ref a26, .ref a28, .ref a30, .ref a32, .ref a34, .ref a36, .ref a38, .ref a40, .int w42, .int w45, .int w46, .int w47, .int 1])) H := hO
          refine lv_aload_n hx hb dX11_week_32 rfl (lv_at hl 0 rfl) ?_
          refine lv_aload_n hx hb dX11_week_33 rfl (lv_at hl 0 rfl) ?_
          refine th_get hx hb hts inT11 hown hK hO rfl 7 (by decide) (hts _ (tb_c wd_352)) rfl rfl dX11_week_34 ?_
          refine lv_iload_n hx hb dX11_week_37 rfl (lv_at hl 1 rfl) ?_
          refine lv_iload_n hx hb dX11_week_38 rfl (lv_at hl 2 rfl) ?_
          refine lv_aload_n hx hb dX11_week_39 rfl (lv_at hl 0 rfl) ?_
          refine th_get hx hb hts inT11 hown hK hO rfl 4 (by decide) (hts _ (tb_c wd_349)) rfl rfl dX11_week_40 ?_
          have hI := th_I.close hI hG0 hO (ok_15 hq20 hq21 hq23 hq25 hq27 hq29 hq31 hq33 hq35 hq37 hq39 hq41 ⟨by omega, by omega⟩)
          refine th_cVi (As := [.int x1, .int x2, .ref a26]) (rest := [.ref h0]) (n := 3) (d := 7) ⟨hx, hb, hml, hown, hts⟩ (c_X9_drawWeekx l E D G a32 hq33 x1 x2 a26 hq27 ⟨by omega, by omega⟩ ⟨by omega, by omega⟩) wd_1182 wd_1183 wd_1184 wd_8 wd_1185 (by decide +kernel) ⟨by rw [hR]; exact Nat.le_of_ble_eq_true rfl, by rw [hR]; exact Nat.le_of_ble_eq_true rfl⟩ hI hN hK hS (rc_10 hI hq33 List.not_mem_nil) rfl rfl hl.1 rfl (Nat.le_of_ble_eq_true rfl) dX11_week_43 ⟨Nat.zero_le _, Nat.zero_le _⟩ (fun r49 H locs hp hI hS => ?_)
          have hp := hp.symm
          subst hp
          refine th_cVi (As := [.int (nI (wC x1.toInt.toNat x2.toInt 96))]) (rest := []) (n := 1) (d := 0) ⟨hx, hb, hml, hown, hts⟩ (c_X11_accept l E D G h0 (n) hG0 (nI (wC x1.toInt.toNat x2.toInt 96))) wd_447 wd_449 wp_3 wd_1 wd_450 (by decide +kernel) ⟨by rw [hR]; exact Nat.le_of_ble_eq_true rfl, by rw [hR]; exact Nat.le_of_ble_eq_true rfl⟩ hI hN hK hS (rc_15 hI hG0 List.not_mem_nil) rfl rfl hl.1 rfl (Nat.le_of_ble_eq_true rfl) dX11_week_46 ⟨Nat.zero_le _, Nat.zero_le _⟩ (fun r50 H locs hp hI hS => ?_)
          have hp := hp.symm
          subst hp
          have hpost : (((nI (wC x1.toInt.toNat x2.toInt 96)) : Int32) = -1 ∧ ¬ (rg x1 0 1000000 ∧ rg x2 0 100)) ∨ (((nI (wC x1.toInt.toNat x2.toInt 96)) : Int32) = nI (wC x1.toInt.toNat x2.toInt 96) ∧ (rg x1 0 1000000 ∧ rg x2 0 100)) := by first | exact Or.inl ⟨rfl, by simp only [rg]; omega⟩ | exact Or.inr ⟨rfl, by simp only [rg]; omega⟩
          rw [hQ]
          exact W.iret (v := (nI (wC x1.toInt.toNat x2.toInt 96))) hx hb hr (fun t ht hW => ⟨⟨(nI (wC x1.toInt.toNat x2.toInt 96)), (), rfl, hpost, by rw [ht]; exact hI, hN.warm hW, va_K.moved hW.alike hK⟩, hS.F ht⟩) hS.2.2 dX11_week_49
        · skip
          have k51 := iv_nle (X := x2.toInt) (Y := (100)) rfl (by decide) c17
          refine lv_aload_n hx hb dX11_week_21 rfl (lv_at hl 0 rfl) ?_
          refine lv_iconst (v := (-1)) hx hb dX11_week_22 (by decide) ?_
          refine th_cVi (As := [.int (-1)]) (rest := []) (n := 1) (d := 0) ⟨hx, hb, hml, hown, hts⟩ (c_X11_refuse l E D G h0 (n) hG0 (-1)) wd_407 wd_409 wp_0 wd_1 wd_410 (by decide +kernel) ⟨by rw [hR]; exact Nat.le_of_ble_eq_true rfl, by rw [hR]; exact Nat.le_of_ble_eq_true rfl⟩ hI hN hK hS (rc_15 hI hG0 List.not_mem_nil) rfl rfl hl.1 rfl (Nat.le_of_ble_eq_true rfl) dX11_week_23 ⟨Nat.zero_le _, Nat.zero_le _⟩ (fun r52 H locs hp hI hS => ?_)
          have hp := hp.symm
          subst hp
          have hpost : (((-1) : Int32) = -1 ∧ ¬ (rg x1 0 1000000 ∧ rg x2 0 100)) ∨ (((-1) : Int32) = nI (wC x1.toInt.toNat x2.toInt 96) ∧ (rg x1 0 1000000 ∧ rg x2 0 100)) := by first | exact Or.inl ⟨rfl, by simp only [rg]; omega⟩ | exact Or.inr ⟨rfl, by simp only [rg]; omega⟩
          rw [hQ]
          exact W.iret (v := (-1)) hx hb hr (fun t ht hW => ⟨⟨(-1), (), rfl, hpost, by rw [ht]; exact hI, hN.warm hW, va_K.moved hW.alike hK⟩, hS.F ht⟩) hS.2.2 dX11_week_26
