theorem wp_12 : Cond.selects RX3 yX3_addToken yX3_addToken ∈ TB := tv 12 (by decide +kernel) (by decide +kernel)
theorem wd_16 : (Cond.initialized RJ0) ∈ TB := tw 16 (by decide +kernel) (by decide +kernel)
theorem wd_17 : (Cond.initialized RJ1) ∈ TB := tw 17 (by decide +kernel) (by decide +kernel)
theorem wd_18 : (Cond.initialized RJ3) ∈ TB := tw 18 (by decide +kernel) (by decide +kernel)
theorem wd_1870 : (Cond.fieldLink RJ0 (15 : Nat) "java/lang/String" "coder" "B") ∈ TB := tw 1870 (by decide +kernel) (by decide +kernel)
theorem wd_1871 : (Cond.fieldLink RJ0 (9 : Nat) "java/lang/String" "value" "[B") ∈ TB := tw 1871 (by decide +kernel) (by decide +kernel)
theorem wd_647 : (Cond.methodLink RX3 (49 : Nat) Lib.Math.min.name) ∈ TB := tw 647 (by decide +kernel) (by decide +kernel)
theorem wd_653 : (Cond.methodLink RX3 (79 : Nat) yX3_isLetter) ∈ TB := tw 653 (by decide +kernel) (by decide +kernel)
theorem wd_654 : (Jvm.Cond.static yX3_isLetter) ∈ TB := tw 654 (by decide +kernel) (by decide +kernel)
theorem wd_655 : (Cond.code yX3_isLetter cX3_isLetter 1 (Option.some Jvm.ClassFile.FieldType.boolean)) ∈ TB := tw 655 (by decide +kernel) (by decide +kernel)
theorem wd_656 : (Cond.methodLink RX3 (83 : Nat) yX3_findWord) ∈ TB := tw 656 (by decide +kernel) (by decide +kernel)
theorem wd_657 : (Jvm.Cond.static yX3_findWord) ∈ TB := tw 657 (by decide +kernel) (by decide +kernel)
theorem wd_658 : (Cond.code yX3_findWord cX3_findWord 7 (Option.some Jvm.ClassFile.FieldType.int)) ∈ TB := tw 658 (by decide +kernel) (by decide +kernel)
theorem wd_660 : (Cond.methodLink RX3 (91 : Nat) yJ0_charAt_5068e) ∈ TB := tw 660 (by decide +kernel) (by decide +kernel)
theorem wd_661 : (Jvm.Cond.instanceMethod yJ0_charAt_5068e) ∈ TB := tw 661 (by decide +kernel) (by decide +kernel)
theorem wd_662 : (Cond.selects RJ0 yJ0_charAt_5068e yJ0_charAt_5068e) ∈ TB := tw 662 (by decide +kernel) (by decide +kernel)
theorem wd_663 : (Cond.code yJ0_charAt_5068e cJ0_charAt_5068e 2 (Option.some Jvm.ClassFile.FieldType.char)) ∈ TB := tw 663 (by decide +kernel) (by decide +kernel)
theorem wd_664 : (Cond.methodLink RJ0 (492 : Nat) yJ0_isLatin1_aae02) ∈ TB := tw 664 (by decide +kernel) (by decide +kernel)
theorem wd_665 : (Jvm.Cond.instanceMethod yJ0_isLatin1_aae02) ∈ TB := tw 665 (by decide +kernel) (by decide +kernel)
theorem wd_666 : (Cond.selects RJ0 yJ0_isLatin1_aae02 yJ0_isLatin1_aae02) ∈ TB := tw 666 (by decide +kernel) (by decide +kernel)
theorem wd_667 : (Cond.code yJ0_isLatin1_aae02 cJ0_isLatin1_aae02 1 (Option.some Jvm.ClassFile.FieldType.boolean)) ∈ TB := tw 667 (by decide +kernel) (by decide +kernel)
theorem wd_668 : (Cond.fieldLink RJ0 (38 : Nat) "java/lang/String" "COMPACT_STRINGS" "Z") ∈ TB := tw 668 (by decide +kernel) (by decide +kernel)
theorem wd_670 : (Cond.methodLink RJ0 (495 : Nat) yJ1_charAt_3b067) ∈ TB := tw 670 (by decide +kernel) (by decide +kernel)
theorem wd_671 : (Jvm.Cond.static yJ1_charAt_3b067) ∈ TB := tw 671 (by decide +kernel) (by decide +kernel)
theorem wd_672 : (Cond.code yJ1_charAt_3b067 cJ1_charAt_3b067 2 (Option.some Jvm.ClassFile.FieldType.char)) ∈ TB := tw 672 (by decide +kernel) (by decide +kernel)
theorem wd_673 : (Cond.methodLink RJ1 (9 : Nat) yJ0_checkIndex_df160) ∈ TB := tw 673 (by decide +kernel) (by decide +kernel)
theorem wd_674 : (Jvm.Cond.static yJ0_checkIndex_df160) ∈ TB := tw 674 (by decide +kernel) (by decide +kernel)
theorem wd_675 : (Cond.code yJ0_checkIndex_df160 cJ0_checkIndex_df160 2 (Option.none : Option Jvm.ClassFile.FieldType)) ∈ TB := tw 675 (by decide +kernel) (by decide +kernel)
theorem wd_676 : (Cond.fieldLink RJ0 (1053 : Nat) "jdk/internal/util/Preconditions" "SIOOBE_FORMATTER" "Ljava/util/function/BiFunction;") ∈ TB := tw 676 (by decide +kernel) (by decide +kernel)
theorem wd_678 : (Cond.methodLink RJ0 (1059 : Nat) yJ3_checkIndex_8e157) ∈ TB := tw 678 (by decide +kernel) (by decide +kernel)
theorem wd_679 : (Jvm.Cond.static yJ3_checkIndex_8e157) ∈ TB := tw 679 (by decide +kernel) (by decide +kernel)
theorem wd_680 : (Cond.code yJ3_checkIndex_8e157 cJ3_checkIndex_8e157 3 (Option.some Jvm.ClassFile.FieldType.int)) ∈ TB := tw 680 (by decide +kernel) (by decide +kernel)
theorem wd_700 : (Cond.methodLink RX3 (62 : Nat) yX3_addToken) ∈ TB := tw 700 (by decide +kernel) (by decide +kernel)
theorem wd_702 : (Jvm.Cond.instanceMethod yX3_addToken) ∈ TB := tw 702 (by decide +kernel) (by decide +kernel)
theorem wd_703 : (Cond.code yX3_addToken cX3_addToken 4 (Option.none : Option Jvm.ClassFile.FieldType)) ∈ TB := tw 703 (by decide +kernel) (by decide +kernel)
theorem wd_704 : (Cond.methodLink RX3 (86 : Nat) yX3_isDigit) ∈ TB := tw 704 (by decide +kernel) (by decide +kernel)
theorem wd_705 : (Jvm.Cond.static yX3_isDigit) ∈ TB := tw 705 (by decide +kernel) (by decide +kernel)
theorem wd_706 : (Cond.code yX3_isDigit cX3_isDigit 1 (Option.some Jvm.ClassFile.FieldType.boolean)) ∈ TB := tw 706 (by decide +kernel) (by decide +kernel)
/-! ===== the word list, a text: what the class's reader looks up ===== -/
def w_text : String := "flows   costs   tolls   bars    if      or      and     not     cell    hour    day     strike  pumped  mills   natural down    year    "
def w_byt : List Int32 := [102, 108, 111, 119, 115, 32, 32, 32, 99, 111, 115, 116, 115, 32, 32, 32, 116, 111, 108, 108, 115, 32, 32, 32, 98, 97, 114, 115, 32, 32, 32, 32, 105, 102, 32, 32, 32, 32, 32, 32, 111, 114, 32, 32, 32, 32, 32, 32, 97, 110, 100, 32, 32, 32, 32, 32, 110, 111, 116, 32, 32, 32, 32, 32, 99, 101, 108, 108, 32, 32, 32, 32, 104, 111, 117, 114, 32, 32, 32, 32, 100, 97, 121, 32, 32, 32, 32, 32, 115, 116, 114, 105, 107, 101, 32, 32, 112, 117, 109, 112, 101, 100, 32, 32, 109, 105, 108, 108, 115, 32, 32, 32, 110, 97, 116, 117, 114, 97, 108, 32, 100, 111, 119, 110, 32, 32, 32, 32, 121, 101, 97, 114, 32, 32, 32, 32]
def WS (adK adV : Nat → Nat) (A : Nat → Prop) (U : State) (H : Heap) : Prop := va_Z "java/lang/String" "COMPACT_STRINGS" "Z" (.int 1) A U H ∧ va_Zq "jdk/internal/util/Preconditions" "SIOOBE_FORMATTER" "Ljava/util/function/BiFunction;" A U H ∧ vk_S 1 [136] [w_byt] adK adV A U H ∧ vk_R "NineRiver$Reader" 89 w_text (adK 0) U
theorem WS.same {adK adV : Nat → Nat} {A : Nat → Prop} {u U : State} {H : Heap} (hv : U.vm = u.vm) (h : WS adK adV A u H) : WS adK adV A U H := by
  have ha : u.vm.Alike U.vm := by rw [hv]; exact Vm.Alike.refl u.vm
  obtain ⟨h1, h2, h3, h4⟩ := h
  exact ⟨h1.moved ha, h2.moved ha, h3.moved ha, h4.same hv⟩
theorem WS.warm {adK adV : Nat → Nat} {A : Nat → Prop} {s U : State} {H : Heap} (hW : s.WarmedH U.vm) (h : WS adK adV A s H) : WS adK adV A U H := by
  obtain ⟨h1, h2, h3, h4⟩ := h
  exact ⟨h1.moved hW.alike, h2.moved hW.alike, h3.moved hW.alike, h4.warm hW⟩
theorem WS.kept {adK adV : Nat → Nat} {A : Nat → Prop} {U : State} {H H1 : Heap} (hq : ∀ a : Nat, a < H.size → ¬ A a → H1[a]? = H[a]?) (h : WS adK adV A U H) : WS adK adV A U H1 := by
  obtain ⟨h1, h2, h3, h4⟩ := h
  exact ⟨h1.kept hq, h2.kept hq, h3.kept hq, h4⟩
theorem WS.narrow {adK adV : Nat → Nat} {A B : Nat → Prop} {U : State} {H : Heap} (hAB : ∀ q, B q → A q) (h : WS adK adV A U H) : WS adK adV B U H := by
  obtain ⟨h1, h2, h3, h4⟩ := h
  exact ⟨h1.narrow hAB, h2.narrow hAB, h3.narrow hAB, h4⟩
abbrev noA : Nat → Prop := fun _ => False
theorem WS.at {adK adV : Nat → Nat} {A : Nat → Prop} {s U : State} {H : Heap} {locs : List Loc} (h : WS adK adV A s s.heap) (hS : va_S A s.heap H locs) (hU : U.heap = H) (hW : s.WarmedH U.vm) : WS adK adV noA U U.heap := by
  rw [hU]
  exact ((h.kept hS.2.1).narrow (fun _ z => z.elim)).warm hW
abbrev PSW (adK adV : Nat → Nat) (H : Heap) : State → Prop := fun U => U.heap = H ∧ th_N U ∧ WS adK adV noA U U.heap
theorem sw_blind {adK adV : Nat → Nat} {av : List Value} {H : Heap} : FrameBlind (va_Pc av (PSW adK adV H)) := fun a U g mk q => ⟨q.1, q.2.1, th_N.same (u := U) rfl q.2.2.1, WS.same (u := U) rfl q.2.2.2⟩
abbrev PST (E : Nat → Nat) (D : va_G) (G : th_G) (adK adV : Nat → Nat) (H : Heap) : State → Prop := fun U => U.heap = H ∧ th_P E D G U ∧ WS adK adV noA U U.heap
theorem st_blind {E : Nat → Nat} {D : va_G} {G : th_G} {adK adV : Nat → Nat} {av : List Value} {H : Heap} : FrameBlind (va_Pc av (PST E D G adK adV H)) := fun a U g mk q => ⟨q.1, q.2.1, ⟨q.2.2.1.1, th_N.same (u := U) rfl q.2.2.1.2.1, va_K.moved (u := U) (U := U.calling g mk a) (Vm.Alike.refl U.vm) q.2.2.1.2.2⟩, WS.same (u := U) rfl q.2.2.2⟩
abbrev th_PW (E : Nat → Nat) (D : va_G) (G : th_G) (adK adV : Nat → Nat) : State → Prop := fun U => th_P E D G U ∧ WS adK adV (th_A G) U U.heap
theorem pw_blind {E : Nat → Nat} {D : va_G} {G : th_G} {adK adV : Nat → Nat} {av : List Value} : FrameBlind (va_Pc av (th_PW E D G adK adV)) := fun a U g mk q => ⟨q.1, ⟨q.2.1.1, th_N.same (u := U) rfl q.2.1.2.1, va_K.moved (u := U) (U := U.calling g mk a) (Vm.Alike.refl U.vm) q.2.1.2.2⟩, WS.same (u := U) rfl q.2.2⟩
abbrev QSv (H : Heap) : Array Value → State → Outcome → State → Prop := va_Qv (fun (_ : Unit) => True) (fun _ t => t.heap = H) (fun _ => False)
section SW
variable {p : Program} {l : Launch} {e : Env} {R : Room} {s : State} {m : MethodId} {args : Array Value} {below : List Frame} {meth : Method} {c : Code} {H : Heap} {locs : List Loc} {cells slots : Nat} {Q : State → Prop}
variable {cc : ByteArray} {pc nL : Nat} {ls : Array Slot} {rest st0 As : List Value} {A0 : Nat → Prop} {D : va_G} {E : Nat → Nat} {G : th_G} {adK adV : Nat → Nat}
variable {own : String} {index n maxL d : Nat} {y : MethodName} {bytes : ByteArray} {ret : Option FieldType} {cw : Cond}
theorem sw_S {post : Int32 → Prop} (F : CallFix p m c cc nL s args (tb cw) own) (hM : Met l y (tb (.code y bytes maxL ret)) (rm d) (va_Pc As (PSW adK adV H)) (QS H post) 0 0 (fun _ => False))
    (h1 : Cond.methodLink own index y ∈ TB) (h2 : Cond.static y ∈ TB) (h4 : Cond.initialized y.cls ∈ TB) (h5 : Cond.code y bytes maxL ret ∈ TB)
    (hd : y.cls ≠ "java/lang/invoke/MethodHandle" ∧ y.cls ≠ "java/lang/invoke/VarHandle" ∧ (parseMethodDescriptor y.desc).map (fun d => d.parameters.length) = some n) (hR : d + 1 ≤ R.frames ∧ 8 + (maxL + 11) + 40 * d ≤ R.locals)
    (hN : th_N s) (hWS : WS adK adV A0 s s.heap) (hS : va_S A0 s.heap H locs)
    (hn : As.length = n) (hsize : ls.size = nL) (hst : st0 = As.reverse ++ rest) (hrm : (rest.map fun v => v.category).sum ≤ 8) (hdg : decode cc pc = .ok (.invokestatic index, 3)) (hcs : cells ≤ R.cells ∧ slots ≤ R.slots)
    (kk : ∀ (r : Int32) (locs1 : List Loc), post r → va_S A0 s.heap H locs1 → W p l e R s m args below meth c H locs1 cells slots Q (F0 m (pc + 3) ls (.int r :: rest))) : W p l e R s m args below meth c H locs cells slots Q (F0 m pc ls st0) :=
  va_calli (va_runS (As := As) (rest := rest) F hM (va_cwS n F.2.2.2.2 (tb_S h1 h2 h4 h5) rfl rfl rfl hd hR) ⟨sw_blind, fun U hU hW => ⟨rfl, hU, hN.warm hW, hWS.at hS hU hW⟩⟩ rfl hn hsize hst (lv_room hrm) hdg hcs) hS (fun q _ h => h.elim) (fun q h => h.elim) (fun r u t H1 locs1 ht hvm hw hB hz hk hS1 => by
    have e : H1 = H := ht.symm.trans hB
    rw [e] at hS1 ⊢
    exact kk r locs1 hw hS1)
theorem sw_Sv (F : CallFix p m c cc nL s args (tb cw) own) (hM : Met l y (tb (.code y bytes maxL ret)) (rm d) (va_Pc As (PSW adK adV H)) (QSv H) 0 0 (fun _ => False))
    (h1 : Cond.methodLink own index y ∈ TB) (h2 : Cond.static y ∈ TB) (h4 : Cond.initialized y.cls ∈ TB) (h5 : Cond.code y bytes maxL ret ∈ TB)
    (hd : y.cls ≠ "java/lang/invoke/MethodHandle" ∧ y.cls ≠ "java/lang/invoke/VarHandle" ∧ (parseMethodDescriptor y.desc).map (fun d => d.parameters.length) = some n) (hR : d + 1 ≤ R.frames ∧ 8 + (maxL + 11) + 40 * d ≤ R.locals)
    (hN : th_N s) (hWS : WS adK adV A0 s s.heap) (hS : va_S A0 s.heap H locs)
    (hn : As.length = n) (hsize : ls.size = nL) (hst : st0 = As.reverse ++ rest) (hrm : (rest.map fun v => v.category).sum ≤ 8) (hdg : decode cc pc = .ok (.invokestatic index, 3)) (hcs : cells ≤ R.cells ∧ slots ≤ R.slots)
    (kk : ∀ (locs1 : List Loc), va_S A0 s.heap H locs1 → W p l e R s m args below meth c H locs1 cells slots Q (F0 m (pc + 3) ls rest)) : W p l e R s m args below meth c H locs cells slots Q (F0 m pc ls st0) :=
  va_callv (va_runS (As := As) (rest := rest) F hM (va_cwS n F.2.2.2.2 (tb_S h1 h2 h4 h5) rfl rfl rfl hd hR) ⟨sw_blind, fun U hU hW => ⟨rfl, hU, hN.warm hW, hWS.at hS hU hW⟩⟩ rfl hn hsize hst (lv_room hrm) hdg hcs) hS (fun q _ h => h.elim) (fun q h => h.elim) (fun u t H1 locs1 ht hvm hw hB hz hk hS1 => by
    have e : H1 = H := ht.symm.trans hB
    rw [e] at hS1 ⊢
    exact kk locs1 hS1)
theorem sw_V {post : Int32 → Prop} (F : CallFix p m c cc nL s args (tb cw) own) (hM : Met l y (tb (.code y bytes maxL ret)) (rm d) (va_Pc (.ref (adK 0) :: As) (PSW adK adV H)) (QS H post) 0 0 (fun _ => False))
    (h1 : Cond.methodLink own index y ∈ TB) (h2 : Cond.instanceMethod y ∈ TB) (h3 : Cond.selects "java/lang/String" y y ∈ TB) (h4 : Cond.initialized "java/lang/String" ∈ TB) (h5 : Cond.code y bytes maxL ret ∈ TB)
    (hd : y.cls = "java/lang/String" ∧ y.cls ≠ "java/lang/invoke/MethodHandle" ∧ y.cls ≠ "java/lang/invoke/VarHandle" ∧ (parseMethodDescriptor y.desc).map (fun d => d.parameters.length) = some n) (hR : d + 1 ≤ R.frames ∧ 8 + (maxL + 11) + 40 * d ≤ R.locals)
    (hN : th_N s) (hWS : WS adK adV A0 s s.heap) (hS : va_S A0 s.heap H locs)
    (hn : As.length = n) (hsize : ls.size = nL) (hst : st0 = As.reverse ++ .ref (adK 0) :: rest) (hrm : (rest.map fun v => v.category).sum ≤ 8) (hdg : decode cc pc = .ok (.invokevirtual index, 3)) (hcs : cells ≤ R.cells ∧ slots ≤ R.slots)
    (kk : ∀ (r : Int32) (locs1 : List Loc), post r → va_S A0 s.heap H locs1 → W p l e R s m args below meth c H locs1 cells slots Q (F0 m (pc + 3) ls (.int r :: rest))) : W p l e R s m args below meth c H locs cells slots Q (F0 m pc ls st0) :=
  va_calli (va_runV (As := As) (rest := rest) F hM (cwV n F.2.2.2.2 (tb_V h1 h2 h3 h4 h5) rfl rfl rfl hd hR) ⟨sw_blind, vk_recv hWS.2.2.1 (by decide) hS, fun U hU hW => ⟨rfl, hU, hN.warm hW, hWS.at hS hU hW⟩⟩ rfl hn hsize hst (lv_room hrm) hdg hcs) hS (fun q _ h => h.elim) (fun q h => h.elim) (fun r u t H1 locs1 ht hvm hw hB hz hk hS1 => by
    have e : H1 = H := ht.symm.trans hB
    rw [e] at hS1 ⊢
    exact kk r locs1 hw hS1)
theorem st_S {post : Int32 → Prop} (F : CallFix p m c cc nL s args (tb cw) own) (hM : Met l y (tb (.code y bytes maxL ret)) (rm d) (va_Pc As (PST E D G adK adV H)) (QS H post) 0 0 (fun _ => False))
    (h1 : Cond.methodLink own index y ∈ TB) (h2 : Cond.static y ∈ TB) (h4 : Cond.initialized y.cls ∈ TB) (h5 : Cond.code y bytes maxL ret ∈ TB)
    (hd : y.cls ≠ "java/lang/invoke/MethodHandle" ∧ y.cls ≠ "java/lang/invoke/VarHandle" ∧ (parseMethodDescriptor y.desc).map (fun d => d.parameters.length) = some n) (hR : d + 1 ≤ R.frames ∧ 8 + (maxL + 11) + 40 * d ≤ R.locals)
    (hI : th_I (okC E) D G [] H) (hN : th_N s) (hK : va_K D vwCl (th_tys E) s) (hWS : WS adK adV A0 s s.heap) (hS : va_S A0 s.heap H locs)
    (hn : As.length = n) (hsize : ls.size = nL) (hst : st0 = As.reverse ++ rest) (hrm : (rest.map fun v => v.category).sum ≤ 8) (hdg : decode cc pc = .ok (.invokestatic index, 3)) (hcs : cells ≤ R.cells ∧ slots ≤ R.slots)
    (kk : ∀ (r : Int32) (locs1 : List Loc), post r → va_S A0 s.heap H locs1 → W p l e R s m args below meth c H locs1 cells slots Q (F0 m (pc + 3) ls (.int r :: rest))) : W p l e R s m args below meth c H locs cells slots Q (F0 m pc ls st0) :=
  va_calli (va_runS (As := As) (rest := rest) F hM (va_cwS n F.2.2.2.2 (tb_S h1 h2 h4 h5) rfl rfl rfl hd hR) ⟨st_blind, fun U hU hW => ⟨rfl, hU, ⟨by rw [hU]; exact hI, hN.warm hW, va_K.moved hW.alike hK⟩, hWS.at hS hU hW⟩⟩ rfl hn hsize hst (lv_room hrm) hdg hcs) hS (fun q _ h => h.elim) (fun q h => h.elim) (fun r u t H1 locs1 ht hvm hw hB hz hk hS1 => by
    have e : H1 = H := ht.symm.trans hB
    rw [e] at hS1 ⊢
    exact kk r locs1 hw hS1)
/-- a typed method that looks words up, called by one that may change more -/
theorem pw_Vi {ci N : Nat} {C : String} {T : u_T} {b : Nat} {post : Int32 → Prop} (F : CallFix p m c cc nL s args (tb cw) own) (hM : Met l y (tb (.code y bytes maxL ret)) (rm d) (va_Pc (.ref b :: As) (th_PW E D G adK adV)) (QI E D G post) 0 0 (th_A G))
    (h1 : Cond.methodLink own index y ∈ TB) (h2 : Cond.instanceMethod y ∈ TB) (h3 : Cond.selects C y y ∈ TB) (h4 : Cond.initialized C ∈ TB) (h5 : Cond.code y bytes maxL ret ∈ TB)
    (hd : y.cls = C ∧ y.cls ≠ "java/lang/invoke/MethodHandle" ∧ y.cls ≠ "java/lang/invoke/VarHandle" ∧ (parseMethodDescriptor y.desc).map (fun d => d.parameters.length) = some n) (hR : d + 1 ≤ R.frames ∧ 8 + (maxL + 11) + 40 * d ≤ R.locals)
    (hI : th_I (okC E) D G [] H) (hN : th_N s) (hK : va_K D vwCl (th_tys E) s) (hWS : WS adK adV A0 s s.heap) (hS : va_S A0 s.heap H locs) (hAG : ∀ (r : Nat) (k' : th_K), G r = some k' → A0 r) (hO : ∃ fs, va_at D vwCl (b, .inr (ci, fs)) H) (hc : vwCl[ci]? = some (C, T, N))
    (hn : As.length = n) (hsize : ls.size = nL) (hst : st0 = As.reverse ++ .ref b :: rest) (hrm : (rest.map fun v => v.category).sum ≤ 8) (hdg : decode cc pc = .ok (.invokevirtual index, 3)) (hcs : cells ≤ R.cells ∧ slots ≤ R.slots)
    (kk : ∀ (r : Int32) (H1 : Heap) (locs1 : List Loc), post r → th_I (okC E) D G [] H1 → va_S A0 s.heap H1 locs1 → W p l e R s m args below meth c H1 locs1 cells slots Q (F0 m (pc + 3) ls (.int r :: rest))) : W p l e R s m args below meth c H locs cells slots Q (F0 m pc ls st0) := by
  obtain ⟨fs, hO⟩ := hO
  exact va_calli (va_runV (As := As) (rest := rest) F hM (cwV n F.2.2.2.2 (tb_V h1 h2 h3 h4 h5) rfl rfl rfl hd hR) ⟨pw_blind, va_recv hK (th_one hO) hc (q0 := 0) rfl, fun U hU hW => ⟨rfl, ⟨by rw [hU]; exact hI, hN.warm hW, va_K.moved hW.alike hK⟩, by rw [hU]; exact ((hWS.kept hS.2.1).narrow (fun q ⟨k', h⟩ => hAG q k' h)).warm hW⟩⟩ rfl hn hsize hst (lv_room hrm) hdg hcs) hS (fun q _ h => by obtain ⟨k', h⟩ := h; exact hAG q k' h) (fun q h => by obtain ⟨k', h⟩ := h; exact hAG q k' h) (fun r u t H1 locs1 ht hvm hw hB hz hk hS => kk r H1 locs1 hw (by rw [← ht]; exact hB.1) hS)
end SW

theorem dJ3_checkIndex_8e157_0g : (decode cJ3_checkIndex_8e157 0 = .ok (.iload_n 0, 1)) ∧ (decode cJ3_checkIndex_8e157 1 = .ok (.ifCond .lt 8, 3)) ∧ (decode cJ3_checkIndex_8e157 4 = .ok (.iload_n 0, 1)) ∧ (decode cJ3_checkIndex_8e157 5 = .ok (.iload_n 1, 1)) ∧ (decode cJ3_checkIndex_8e157 6 = .ok (.if_icmp .lt 10, 3)) ∧ (decode cJ3_checkIndex_8e157 9 = .ok (.aload_n 2, 1)) ∧ (decode cJ3_checkIndex_8e157 10 = .ok (.iload_n 0, 1)) ∧ (decode cJ3_checkIndex_8e157 11 = .ok (.iload_n 1, 1)) ∧ (decode cJ3_checkIndex_8e157 12 = .ok (.invokestatic 95, 3)) ∧ (decode cJ3_checkIndex_8e157 15 = .ok (.athrow, 1)) := by decide +kernel
theorem dJ3_checkIndex_8e157_0 : decode cJ3_checkIndex_8e157 0 = .ok (.iload_n 0, 1) := dJ3_checkIndex_8e157_0g.1
theorem dJ3_checkIndex_8e157_1 : decode cJ3_checkIndex_8e157 1 = .ok (.ifCond .lt 8, 3) := dJ3_checkIndex_8e157_0g.2.1
theorem dJ3_checkIndex_8e157_4 : decode cJ3_checkIndex_8e157 4 = .ok (.iload_n 0, 1) := dJ3_checkIndex_8e157_0g.2.2.1
theorem dJ3_checkIndex_8e157_5 : decode cJ3_checkIndex_8e157 5 = .ok (.iload_n 1, 1) := dJ3_checkIndex_8e157_0g.2.2.2.1
theorem dJ3_checkIndex_8e157_6 : decode cJ3_checkIndex_8e157 6 = .ok (.if_icmp .lt 10, 3) := dJ3_checkIndex_8e157_0g.2.2.2.2.1
theorem dJ3_checkIndex_8e157_9 : decode cJ3_checkIndex_8e157 9 = .ok (.aload_n 2, 1) := dJ3_checkIndex_8e157_0g.2.2.2.2.2.1
theorem dJ3_checkIndex_8e157_10 : decode cJ3_checkIndex_8e157 10 = .ok (.iload_n 0, 1) := dJ3_checkIndex_8e157_0g.2.2.2.2.2.2.1
theorem dJ3_checkIndex_8e157_11 : decode cJ3_checkIndex_8e157 11 = .ok (.iload_n 1, 1) := dJ3_checkIndex_8e157_0g.2.2.2.2.2.2.2.1
theorem dJ3_checkIndex_8e157_12 : decode cJ3_checkIndex_8e157 12 = .ok (.invokestatic 95, 3) := dJ3_checkIndex_8e157_0g.2.2.2.2.2.2.2.2.1
theorem dJ3_checkIndex_8e157_15 : decode cJ3_checkIndex_8e157 15 = .ok (.athrow, 1) := dJ3_checkIndex_8e157_0g.2.2.2.2.2.2.2.2.2
theorem dJ3_checkIndex_8e157_16g : (decode cJ3_checkIndex_8e157 16 = .ok (.iload_n 0, 1)) ∧ (decode cJ3_checkIndex_8e157 17 = .ok (.ireturn, 1)) := by decide +kernel
theorem dJ3_checkIndex_8e157_16 : decode cJ3_checkIndex_8e157 16 = .ok (.iload_n 0, 1) := dJ3_checkIndex_8e157_16g.1
theorem dJ3_checkIndex_8e157_17 : decode cJ3_checkIndex_8e157 17 = .ok (.ireturn, 1) := dJ3_checkIndex_8e157_16g.2
set_option maxHeartbeats 4000000 in
set_option maxRecDepth 100000 in
theorem c_J3_checkIndex_8e157 (l : Launch) (H0 : Heap) (x0 : Int32) (x2 : Nat) (hx0 : 0 ≤ x0.toInt ∧ x0.toInt ≤ 135) : Met l yJ3_checkIndex_8e157 (tb (.code yJ3_checkIndex_8e157 cJ3_checkIndex_8e157 3 (some .int))) (rm 0) (va_Pc [.int x0, .int 136, .ref x2] (PS H0)) (QS H0 (fun r => True)) 0 0 (fun _ => False) := by
  refine Met.ofW (cc := cJ3_checkIndex_8e157) (maxL := 3) (ret := (some .int)) (by decide) rfl ?_
  intro p e s m args below meth c s₁ B hml hv
  obtain ⟨hav, rfl, hN⟩ := hv
  have hx := B.exec
  have hb := B.bytes
  have hr := B.returns
  have hts := atoms_spec (ws := tb (.code yJ3_checkIndex_8e157 cJ3_checkIndex_8e157 3 (some .int))) B.pre
  have hown : s.vm.findClass RJ3 = some m.cls := findClass_of_methodNamed B.named
  have hlocks := B.notSynchronized
  have hS : va_S (fun _ => False) s.heap s.heap [] := va_S.rf
  have hl := lv_entry ([.int x0, .int 136, .ref x2]) (n := 3) (Nat.le_of_ble_eq_true rfl)
  rw [show entryFrame m args 3 = entryFrame m ([.int x0, .int 136, .ref x2] : List Value).toArray 3 from by rw [hav], lg_entry_eq]
  generalize (lg_sl ([.int x0, .int 136, .ref x2]) ++ List.replicate (3 - (lg_sl ([.int x0, .int 136, .ref x2])).length) Slot.unset).toArray = ls at hl ⊢
  have hl : lv_has ls 3 [(0, .int x0), (1, .int 136), (2, .ref x2)] := hl
  generalize hR : (headSpec (tb (.code yJ3_checkIndex_8e157 cJ3_checkIndex_8e157 3 (some .int))) (rm 0)).room = R
  have hR := hR.symm
  generalize hQ : MQ below (QS s.heap (fun r => True)) args s 0 0 (fun _ => False) = QF
  have hQ := hQ.symm
  refine lv_iload_n hx hb dJ3_checkIndex_8e157_0 rfl (lv_at hl 0 rfl) ?_
  refine lv_if_lt (tgt := 9) hx hb dJ3_checkIndex_8e157_1 (by decide) (fun c1 => ?_) (fun c1 => ?_)
  · skip
    have k2 := iv_lt (X := x0.toInt) (Y := (0)) rfl (by decide) c1
    exfalso; omega
  · skip
    have k3 := iv_nlt (X := x0.toInt) (Y := (0)) rfl (by decide) c1
    refine lv_iload_n hx hb dJ3_checkIndex_8e157_4 rfl (lv_at hl 0 rfl) ?_
    refine lv_iload_n hx hb dJ3_checkIndex_8e157_5 rfl (lv_at hl 1 rfl) ?_
    refine lv_icmp_lt (tgt := 16) hx hb dJ3_checkIndex_8e157_6 (by decide) (fun c4 => ?_) (fun c4 => ?_)
    · skip
      have k5 := iv_lt (X := x0.toInt) (Y := (136)) rfl (by decide) c4
      refine lv_iload_n hx hb dJ3_checkIndex_8e157_16 rfl (lv_at hl 0 rfl) ?_
      have hpost : True := trivial
      rw [hQ]
      exact W.iret (v := x0) hx hb hr (fun t ht hW => ⟨⟨x0, (), rfl, hpost, ht⟩, hS.F ht⟩) hS.2.2 dJ3_checkIndex_8e157_17
    · skip
      have k6 := iv_nlt (X := x0.toInt) (Y := (136)) rfl (by decide) c4
      exfalso; omega
set_option maxHeartbeats 4000000 in
set_option maxRecDepth 100000 in
theorem c_J3_checkIndex_n (l : Launch) (H0 : Heap) (x0 : Int32) (hx0 : 0 ≤ x0.toInt ∧ x0.toInt ≤ 135) : Met l yJ3_checkIndex_8e157 (tb (.code yJ3_checkIndex_8e157 cJ3_checkIndex_8e157 3 (some .int))) (rm 0) (va_Pc [.int x0, .int 136, .null] (PS H0)) (QS H0 (fun r => True)) 0 0 (fun _ => False) := by
  refine Met.ofW (cc := cJ3_checkIndex_8e157) (maxL := 3) (ret := (some .int)) (by decide) rfl ?_
  intro p e s m args below meth c s₁ B hml hv
  obtain ⟨hav, rfl, hN⟩ := hv
  have hx := B.exec
  have hb := B.bytes
  have hr := B.returns
  have hts := atoms_spec (ws := tb (.code yJ3_checkIndex_8e157 cJ3_checkIndex_8e157 3 (some .int))) B.pre
  have hown : s.vm.findClass RJ3 = some m.cls := findClass_of_methodNamed B.named
  have hlocks := B.notSynchronized
  have hS : va_S (fun _ => False) s.heap s.heap [] := va_S.rf
  have hl := lv_entry ([.int x0, .int 136, .null]) (n := 3) (Nat.le_of_ble_eq_true rfl)
  rw [show entryFrame m args 3 = entryFrame m ([.int x0, .int 136, .null] : List Value).toArray 3 from by rw [hav], lg_entry_eq]
  generalize (lg_sl ([.int x0, .int 136, .null]) ++ List.replicate (3 - (lg_sl ([.int x0, .int 136, .null])).length) Slot.unset).toArray = ls at hl ⊢
  have hl : lv_has ls 3 [(0, .int x0), (1, .int 136), (2, .null)] := hl
  generalize hR : (headSpec (tb (.code yJ3_checkIndex_8e157 cJ3_checkIndex_8e157 3 (some .int))) (rm 0)).room = R
  have hR := hR.symm
  generalize hQ : MQ below (QS s.heap (fun r => True)) args s 0 0 (fun _ => False) = QF
  have hQ := hQ.symm
  refine lv_iload_n hx hb dJ3_checkIndex_8e157_0 rfl (lv_at hl 0 rfl) ?_
  refine lv_if_lt (tgt := 9) hx hb dJ3_checkIndex_8e157_1 (by decide) (fun c1 => ?_) (fun c1 => ?_)
  · skip
    have k2 := iv_lt (X := x0.toInt) (Y := (0)) rfl (by decide) c1
    exfalso; omega
  · skip
    have k3 := iv_nlt (X := x0.toInt) (Y := (0)) rfl (by decide) c1
    refine lv_iload_n hx hb dJ3_checkIndex_8e157_4 rfl (lv_at hl 0 rfl) ?_
    refine lv_iload_n hx hb dJ3_checkIndex_8e157_5 rfl (lv_at hl 1 rfl) ?_
    refine lv_icmp_lt (tgt := 16) hx hb dJ3_checkIndex_8e157_6 (by decide) (fun c4 => ?_) (fun c4 => ?_)
    · skip
      have k5 := iv_lt (X := x0.toInt) (Y := (136)) rfl (by decide) c4
      refine lv_iload_n hx hb dJ3_checkIndex_8e157_16 rfl (lv_at hl 0 rfl) ?_
      have hpost : True := trivial
      rw [hQ]
      exact W.iret (v := x0) hx hb hr (fun t ht hW => ⟨⟨x0, (), rfl, hpost, ht⟩, hS.F ht⟩) hS.2.2 dJ3_checkIndex_8e157_17
    · skip
      have k6 := iv_nlt (X := x0.toInt) (Y := (136)) rfl (by decide) c4
      exfalso; omega
theorem dJ0_checkIndex_df160_0g : (decode cJ0_checkIndex_df160 0 = .ok (.iload_n 0, 1)) ∧ (decode cJ0_checkIndex_df160 1 = .ok (.iload_n 1, 1)) ∧ (decode cJ0_checkIndex_df160 2 = .ok (.getstatic 1053, 3)) ∧ (decode cJ0_checkIndex_df160 5 = .ok (.invokestatic 1059, 3)) ∧ (decode cJ0_checkIndex_df160 8 = .ok (.pop, 1)) ∧ (decode cJ0_checkIndex_df160 9 = .ok (.return_, 1)) := by decide +kernel
theorem dJ0_checkIndex_df160_0 : decode cJ0_checkIndex_df160 0 = .ok (.iload_n 0, 1) := dJ0_checkIndex_df160_0g.1
theorem dJ0_checkIndex_df160_1 : decode cJ0_checkIndex_df160 1 = .ok (.iload_n 1, 1) := dJ0_checkIndex_df160_0g.2.1
theorem dJ0_checkIndex_df160_2 : decode cJ0_checkIndex_df160 2 = .ok (.getstatic 1053, 3) := dJ0_checkIndex_df160_0g.2.2.1
theorem dJ0_checkIndex_df160_5 : decode cJ0_checkIndex_df160 5 = .ok (.invokestatic 1059, 3) := dJ0_checkIndex_df160_0g.2.2.2.1
theorem dJ0_checkIndex_df160_8 : decode cJ0_checkIndex_df160 8 = .ok (.pop, 1) := dJ0_checkIndex_df160_0g.2.2.2.2.1
theorem dJ0_checkIndex_df160_9 : decode cJ0_checkIndex_df160 9 = .ok (.return_, 1) := dJ0_checkIndex_df160_0g.2.2.2.2.2
set_option maxHeartbeats 4000000 in
set_option maxRecDepth 100000 in
theorem c_J0_checkIndex_df160 (l : Launch) (adK adV : Nat → Nat) (H0 : Heap) (x0 : Int32) (hx0 : 0 ≤ x0.toInt ∧ x0.toInt ≤ 135) : Met l yJ0_checkIndex_df160 (tb (.code yJ0_checkIndex_df160 cJ0_checkIndex_df160 2 none)) (rm 1) (va_Pc [.int x0, .int 136] (PSW adK adV H0)) (QSv H0) 0 0 (fun _ => False) := by
  refine Met.ofW (cc := cJ0_checkIndex_df160) (maxL := 2) (ret := none) (by decide) rfl ?_
  intro p e s m args below meth c s₁ B hml hv
  obtain ⟨hav, rfl, hN, hWS⟩ := hv
  have hx := B.exec
  have hb := B.bytes
  have hr := B.returns
  have hts := atoms_spec (ws := tb (.code yJ0_checkIndex_df160 cJ0_checkIndex_df160 2 none)) B.pre
  have hown : s.vm.findClass RJ0 = some m.cls := findClass_of_methodNamed B.named
  have hlocks := B.notSynchronized
  have hS : va_S (fun _ => False) s.heap s.heap [] := va_S.rf
  have hl := lv_entry ([.int x0, .int 136]) (n := 2) (Nat.le_of_ble_eq_true rfl)
  rw [show entryFrame m args 2 = entryFrame m ([.int x0, .int 136] : List Value).toArray 2 from by rw [hav], lg_entry_eq]
  generalize (lg_sl ([.int x0, .int 136]) ++ List.replicate (2 - (lg_sl ([.int x0, .int 136])).length) Slot.unset).toArray = ls at hl ⊢
  have hl : lv_has ls 2 [(0, .int x0), (1, .int 136)] := hl
  generalize hR : (headSpec (tb (.code yJ0_checkIndex_df160 cJ0_checkIndex_df160 2 none)) (rm 1)).room = R
  have hR := hR.symm
  generalize hQ : MQ below (QSv s.heap) args s 0 0 (fun _ => False) = QF
  have hQ := hQ.symm
  refine lv_iload_n hx hb dJ0_checkIndex_df160_0 rfl (lv_at hl 0 rfl) ?_
  refine lv_iload_n hx hb dJ0_checkIndex_df160_1 rfl (lv_at hl 1 rfl) ?_
  rcases hWS.2.1 with hZS | ⟨tS, hZS⟩
  · skip
    refine va_gets hx hb hZS hS hown (hts _ (tb_c wd_676)) (fun _ h => h) dJ0_checkIndex_df160_2 ?_
    refine th_cSs (As := [.int x0, .int 136, .null]) (rest := []) (n := 3) (d := 0) ⟨hx, hb, hml, hown, hts⟩ (c_J3_checkIndex_n l s.heap x0 ⟨by omega, by omega⟩) wd_678 wd_679 wd_18 wd_680 (by decide +kernel) ⟨by rw [hR]; exact Nat.le_of_ble_eq_true rfl, by rw [hR]; exact Nat.le_of_ble_eq_true rfl⟩ hN hS rfl hl.1 rfl (Nat.le_of_ble_eq_true rfl) dJ0_checkIndex_df160_5 ⟨Nat.zero_le _, Nat.zero_le _⟩ (fun r1 locs hp hS => ?_)
    have hnr := hp
    refine lv_pop hx hb dJ0_checkIndex_df160_8 rfl ?_
    rw [hQ]
    exact W.vret hx hb hr (fun t ht hW => ⟨⟨(), rfl, trivial, ht⟩, hS.F ht⟩) hS.2.2 dJ0_checkIndex_df160_9
  · skip
    refine va_gets hx hb hZS hS hown (hts _ (tb_c wd_676)) (fun _ h => h) dJ0_checkIndex_df160_2 ?_
    refine th_cSs (As := [.int x0, .int 136, .ref tS]) (rest := []) (n := 3) (d := 0) ⟨hx, hb, hml, hown, hts⟩ (c_J3_checkIndex_8e157 l s.heap x0 tS ⟨by omega, by omega⟩) wd_678 wd_679 wd_18 wd_680 (by decide +kernel) ⟨by rw [hR]; exact Nat.le_of_ble_eq_true rfl, by rw [hR]; exact Nat.le_of_ble_eq_true rfl⟩ hN hS rfl hl.1 rfl (Nat.le_of_ble_eq_true rfl) dJ0_checkIndex_df160_5 ⟨Nat.zero_le _, Nat.zero_le _⟩ (fun r2 locs hp hS => ?_)
    have hnr := hp
    refine lv_pop hx hb dJ0_checkIndex_df160_8 rfl ?_
    rw [hQ]
    exact W.vret hx hb hr (fun t ht hW => ⟨⟨(), rfl, trivial, ht⟩, hS.F ht⟩) hS.2.2 dJ0_checkIndex_df160_9
theorem dJ1_charAt_3b067_0g : (decode cJ1_charAt_3b067 0 = .ok (.iload_n 1, 1)) ∧ (decode cJ1_charAt_3b067 1 = .ok (.aload_n 0, 1)) ∧ (decode cJ1_charAt_3b067 2 = .ok (.arraylength, 1)) ∧ (decode cJ1_charAt_3b067 3 = .ok (.invokestatic 9, 3)) ∧ (decode cJ1_charAt_3b067 6 = .ok (.aload_n 0, 1)) ∧ (decode cJ1_charAt_3b067 7 = .ok (.iload_n 1, 1)) ∧ (decode cJ1_charAt_3b067 8 = .ok (.baload, 1)) ∧ (decode cJ1_charAt_3b067 9 = .ok (.sipush 255, 3)) ∧ (decode cJ1_charAt_3b067 12 = .ok (.iand, 1)) ∧ (decode cJ1_charAt_3b067 13 = .ok (.i2c, 1)) := by decide +kernel
theorem dJ1_charAt_3b067_0 : decode cJ1_charAt_3b067 0 = .ok (.iload_n 1, 1) := dJ1_charAt_3b067_0g.1
theorem dJ1_charAt_3b067_1 : decode cJ1_charAt_3b067 1 = .ok (.aload_n 0, 1) := dJ1_charAt_3b067_0g.2.1
theorem dJ1_charAt_3b067_2 : decode cJ1_charAt_3b067 2 = .ok (.arraylength, 1) := dJ1_charAt_3b067_0g.2.2.1
theorem dJ1_charAt_3b067_3 : decode cJ1_charAt_3b067 3 = .ok (.invokestatic 9, 3) := dJ1_charAt_3b067_0g.2.2.2.1
theorem dJ1_charAt_3b067_6 : decode cJ1_charAt_3b067 6 = .ok (.aload_n 0, 1) := dJ1_charAt_3b067_0g.2.2.2.2.1
theorem dJ1_charAt_3b067_7 : decode cJ1_charAt_3b067 7 = .ok (.iload_n 1, 1) := dJ1_charAt_3b067_0g.2.2.2.2.2.1
theorem dJ1_charAt_3b067_8 : decode cJ1_charAt_3b067 8 = .ok (.baload, 1) := dJ1_charAt_3b067_0g.2.2.2.2.2.2.1
theorem dJ1_charAt_3b067_9 : decode cJ1_charAt_3b067 9 = .ok (.sipush 255, 3) := dJ1_charAt_3b067_0g.2.2.2.2.2.2.2.1
theorem dJ1_charAt_3b067_12 : decode cJ1_charAt_3b067 12 = .ok (.iand, 1) := dJ1_charAt_3b067_0g.2.2.2.2.2.2.2.2.1
theorem dJ1_charAt_3b067_13 : decode cJ1_charAt_3b067 13 = .ok (.i2c, 1) := dJ1_charAt_3b067_0g.2.2.2.2.2.2.2.2.2
theorem dJ1_charAt_3b067_14 : decode cJ1_charAt_3b067 14 = .ok (.ireturn, 1) := by decide +kernel
set_option maxHeartbeats 4000000 in
set_option maxRecDepth 100000 in
theorem c_J1_charAt_3b067 (l : Launch) (adK adV : Nat → Nat) (H0 : Heap) (x1 : Int32) (hx1 : 0 ≤ x1.toInt ∧ x1.toInt ≤ 135) : Met l yJ1_charAt_3b067 (tb (.code yJ1_charAt_3b067 cJ1_charAt_3b067 2 (some .char))) (rm 2) (va_Pc [.ref (adV 0), .int x1] (PSW adK adV H0)) (QS H0 (fun r => narrow .char (.int (r : Int32)) = .int (r : Int32))) 0 0 (fun _ => False) := by
  refine Met.ofW (cc := cJ1_charAt_3b067) (maxL := 2) (ret := (some .char)) (by decide) rfl ?_
  intro p e s m args below meth c s₁ B hml hv
  obtain ⟨hav, rfl, hN, hWS⟩ := hv
  have hx := B.exec
  have hb := B.bytes
  have hr := B.returns
  have hts := atoms_spec (ws := tb (.code yJ1_charAt_3b067 cJ1_charAt_3b067 2 (some .char))) B.pre
  have hown : s.vm.findClass RJ1 = some m.cls := findClass_of_methodNamed B.named
  have hlocks := B.notSynchronized
  have hS : va_S (fun _ => False) s.heap s.heap [] := va_S.rf
  have hl := lv_entry ([.ref (adV 0), .int x1]) (n := 2) (Nat.le_of_ble_eq_true rfl)
  rw [show entryFrame m args 2 = entryFrame m ([.ref (adV 0), .int x1] : List Value).toArray 2 from by rw [hav], lg_entry_eq]
  generalize (lg_sl ([.ref (adV 0), .int x1]) ++ List.replicate (2 - (lg_sl ([.ref (adV 0), .int x1])).length) Slot.unset).toArray = ls at hl ⊢
  have hl : lv_has ls 2 [(0, .ref (adV 0)), (1, .int x1)] := hl
  generalize hR : (headSpec (tb (.code yJ1_charAt_3b067 cJ1_charAt_3b067 2 (some .char))) (rm 2)).room = R
  have hR := hR.symm
  generalize hQ : MQ below (QS s.heap (fun r => narrow .char (.int (r : Int32)) = .int (r : Int32))) args s 0 0 (fun _ => False) = QF
  have hQ := hQ.symm
  refine lv_iload_n hx hb dJ1_charAt_3b067_0 rfl (lv_at hl 1 rfl) ?_
  refine lv_aload_n hx hb dJ1_charAt_3b067_1 rfl (lv_at hl 0 rfl) ?_
  refine va_tlen (N := 136) hx hb (hWS.2.2.1.1 0 (by decide)).2.2.2 hS (v := 136) (by decide) dJ1_charAt_3b067_2 ?_
  refine sw_Sv (As := [.int x1, .int 136]) (rest := []) (n := 2) (d := 1) ⟨hx, hb, hml, hown, hts⟩ (c_J0_checkIndex_df160 l adK adV s.heap x1 ⟨by omega, by omega⟩) wd_673 wd_674 wd_16 wd_675 (by decide +kernel) ⟨by rw [hR]; exact Nat.le_of_ble_eq_true rfl, by rw [hR]; exact Nat.le_of_ble_eq_true rfl⟩ hN hWS hS rfl hl.1 rfl (Nat.le_of_ble_eq_true rfl) dJ1_charAt_3b067_3 ⟨Nat.zero_le _, Nat.zero_le _⟩ (fun locs hS => ?_)
  refine lv_aload_n hx hb dJ1_charAt_3b067_6 rfl (lv_at hl 0 rfl) ?_
  refine lv_iload_n hx hb dJ1_charAt_3b067_7 rfl (lv_at hl 1 rfl) ?_
  refine va_tb (N := 136) hx hb (hWS.2.2.1.1 0 (by decide)).2.2.2 hS (iv_in (X := x1.toInt) rfl (by omega) (by omega)) rfl dJ1_charAt_3b067_8 ?_
  refine lv_topi (fun v2 e3 => ?_)
  refine lv_sipush (v := 255) hx hb dJ1_charAt_3b067_9 (by decide) ?_
  refine lv_iand hx hb dJ1_charAt_3b067_12 ?_
  refine lv_topi (fun v4 e5 => ?_)
  refine lv_i2c hx hb dJ1_charAt_3b067_13 rfl ?_
  refine lv_topi (fun v6 e7 => ?_)
  have hpost : narrow .char (.int (v6 : Int32)) = .int (v6 : Int32) := (by rw [e7, e5, sc_c2]; exact sc_nar _)
  rw [hQ]
  exact W.zret (v := v6) hx hb hr hpost (fun t ht hW => ⟨⟨v6, (), rfl, hpost, ht⟩, hS.F ht⟩) hS.2.2 dJ1_charAt_3b067_14
theorem dJ0_isLatin1_aae02_0g : (decode cJ0_isLatin1_aae02 0 = .ok (.getstatic 38, 3)) ∧ (decode cJ0_isLatin1_aae02 3 = .ok (.ifCond .eq 14, 3)) ∧ (decode cJ0_isLatin1_aae02 6 = .ok (.aload_n 0, 1)) ∧ (decode cJ0_isLatin1_aae02 7 = .ok (.getfield 15, 3)) ∧ (decode cJ0_isLatin1_aae02 10 = .ok (.ifCond .ne 7, 3)) ∧ (decode cJ0_isLatin1_aae02 13 = .ok (.iconst 1, 1)) ∧ (decode cJ0_isLatin1_aae02 14 = .ok (.goto 4, 3)) ∧ (decode cJ0_isLatin1_aae02 17 = .ok (.iconst 0, 1)) ∧ (decode cJ0_isLatin1_aae02 18 = .ok (.ireturn, 1)) := by decide +kernel
theorem dJ0_isLatin1_aae02_0 : decode cJ0_isLatin1_aae02 0 = .ok (.getstatic 38, 3) := dJ0_isLatin1_aae02_0g.1
theorem dJ0_isLatin1_aae02_3 : decode cJ0_isLatin1_aae02 3 = .ok (.ifCond .eq 14, 3) := dJ0_isLatin1_aae02_0g.2.1
theorem dJ0_isLatin1_aae02_6 : decode cJ0_isLatin1_aae02 6 = .ok (.aload_n 0, 1) := dJ0_isLatin1_aae02_0g.2.2.1
theorem dJ0_isLatin1_aae02_7 : decode cJ0_isLatin1_aae02 7 = .ok (.getfield 15, 3) := dJ0_isLatin1_aae02_0g.2.2.2.1
theorem dJ0_isLatin1_aae02_10 : decode cJ0_isLatin1_aae02 10 = .ok (.ifCond .ne 7, 3) := dJ0_isLatin1_aae02_0g.2.2.2.2.1
theorem dJ0_isLatin1_aae02_13 : decode cJ0_isLatin1_aae02 13 = .ok (.iconst 1, 1) := dJ0_isLatin1_aae02_0g.2.2.2.2.2.1
theorem dJ0_isLatin1_aae02_14 : decode cJ0_isLatin1_aae02 14 = .ok (.goto 4, 3) := dJ0_isLatin1_aae02_0g.2.2.2.2.2.2.1
theorem dJ0_isLatin1_aae02_17 : decode cJ0_isLatin1_aae02 17 = .ok (.iconst 0, 1) := dJ0_isLatin1_aae02_0g.2.2.2.2.2.2.2.1
theorem dJ0_isLatin1_aae02_18 : decode cJ0_isLatin1_aae02 18 = .ok (.ireturn, 1) := dJ0_isLatin1_aae02_0g.2.2.2.2.2.2.2.2
set_option maxHeartbeats 4000000 in
set_option maxRecDepth 100000 in
theorem c_J0_isLatin1_aae02 (l : Launch) (adK adV : Nat → Nat) (H0 : Heap)  : Met l yJ0_isLatin1_aae02 (tb (.code yJ0_isLatin1_aae02 cJ0_isLatin1_aae02 1 (some .boolean))) (rm 0) (va_Pc [.ref (adK 0)] (PSW adK adV H0)) (QS H0 (fun r => (r : Int32) = 1)) 0 0 (fun _ => False) := by
  refine Met.ofW (cc := cJ0_isLatin1_aae02) (maxL := 1) (ret := (some .boolean)) (by decide) rfl ?_
  intro p e s m args below meth c s₁ B hml hv
  obtain ⟨hav, rfl, hN, hWS⟩ := hv
  have hx := B.exec
  have hb := B.bytes
  have hr := B.returns
  have hts := atoms_spec (ws := tb (.code yJ0_isLatin1_aae02 cJ0_isLatin1_aae02 1 (some .boolean))) B.pre
  have hown : s.vm.findClass RJ0 = some m.cls := findClass_of_methodNamed B.named
  have hlocks := B.notSynchronized
  have hS : va_S (fun _ => False) s.heap s.heap [] := va_S.rf
  have hl := lv_entry ([.ref (adK 0)]) (n := 1) (Nat.le_of_ble_eq_true rfl)
  rw [show entryFrame m args 1 = entryFrame m ([.ref (adK 0)] : List Value).toArray 1 from by rw [hav], lg_entry_eq]
  generalize (lg_sl ([.ref (adK 0)]) ++ List.replicate (1 - (lg_sl ([.ref (adK 0)])).length) Slot.unset).toArray = ls at hl ⊢
  have hl : lv_has ls 1 [(0, .ref (adK 0))] := hl
  generalize hR : (headSpec (tb (.code yJ0_isLatin1_aae02 cJ0_isLatin1_aae02 1 (some .boolean))) (rm 0)).room = R
  have hR := hR.symm
  generalize hQ : MQ below (QS s.heap (fun r => (r : Int32) = 1)) args s 0 0 (fun _ => False) = QF
  have hQ := hQ.symm
  refine va_gets hx hb hWS.1 hS hown (hts _ (tb_c wd_668)) (fun _ h => h) dJ0_isLatin1_aae02_0 ?_
  refine lv_if_eq (tgt := 17) hx hb dJ0_isLatin1_aae02_3 (by decide) (fun c => absurd c (by decide)) (fun _ => ?_)
  refine lv_aload_n hx hb dJ0_isLatin1_aae02_6 rfl (lv_at hl 0 rfl) ?_
  refine vk_getf hx hb (hWS.2.2.1.1 0 (by decide)).2.1 hS hown (hts _ (tb_c wd_1870)) (fun _ h => h) dJ0_isLatin1_aae02_7 ?_
  refine lv_if_ne (tgt := 17) hx hb dJ0_isLatin1_aae02_10 (by decide) (fun c => absurd c (by decide)) (fun _ => ?_)
  refine lv_iconst (v := 1) hx hb dJ0_isLatin1_aae02_13 (by decide) ?_
  refine lv_goto (tgt := 18) hx hb dJ0_isLatin1_aae02_14 (by decide) ?_
  have hpost : (1 : Int32) = 1 := rfl
  rw [hQ]
  exact W.zret (v := 1) hx hb hr (by decide) (fun t ht hW => ⟨⟨1, (), rfl, hpost, ht⟩, hS.F ht⟩) hS.2.2 dJ0_isLatin1_aae02_18
theorem dJ0_charAt_5068e_0g : (decode cJ0_charAt_5068e 0 = .ok (.aload_n 0, 1)) ∧ (decode cJ0_charAt_5068e 1 = .ok (.invokevirtual 492, 3)) ∧ (decode cJ0_charAt_5068e 4 = .ok (.ifCond .eq 12, 3)) ∧ (decode cJ0_charAt_5068e 7 = .ok (.aload_n 0, 1)) ∧ (decode cJ0_charAt_5068e 8 = .ok (.getfield 9, 3)) ∧ (decode cJ0_charAt_5068e 11 = .ok (.iload_n 1, 1)) ∧ (decode cJ0_charAt_5068e 12 = .ok (.invokestatic 495, 3)) ∧ (decode cJ0_charAt_5068e 15 = .ok (.ireturn, 1)) ∧ (decode cJ0_charAt_5068e 16 = .ok (.aload_n 0, 1)) ∧ (decode cJ0_charAt_5068e 17 = .ok (.getfield 9, 3)) := by decide +kernel
theorem dJ0_charAt_5068e_0 : decode cJ0_charAt_5068e 0 = .ok (.aload_n 0, 1) := dJ0_charAt_5068e_0g.1
theorem dJ0_charAt_5068e_1 : decode cJ0_charAt_5068e 1 = .ok (.invokevirtual 492, 3) := dJ0_charAt_5068e_0g.2.1
theorem dJ0_charAt_5068e_4 : decode cJ0_charAt_5068e 4 = .ok (.ifCond .eq 12, 3) := dJ0_charAt_5068e_0g.2.2.1
theorem dJ0_charAt_5068e_7 : decode cJ0_charAt_5068e 7 = .ok (.aload_n 0, 1) := dJ0_charAt_5068e_0g.2.2.2.1
theorem dJ0_charAt_5068e_8 : decode cJ0_charAt_5068e 8 = .ok (.getfield 9, 3) := dJ0_charAt_5068e_0g.2.2.2.2.1
theorem dJ0_charAt_5068e_11 : decode cJ0_charAt_5068e 11 = .ok (.iload_n 1, 1) := dJ0_charAt_5068e_0g.2.2.2.2.2.1
theorem dJ0_charAt_5068e_12 : decode cJ0_charAt_5068e 12 = .ok (.invokestatic 495, 3) := dJ0_charAt_5068e_0g.2.2.2.2.2.2.1
theorem dJ0_charAt_5068e_15 : decode cJ0_charAt_5068e 15 = .ok (.ireturn, 1) := dJ0_charAt_5068e_0g.2.2.2.2.2.2.2.1
theorem dJ0_charAt_5068e_16 : decode cJ0_charAt_5068e 16 = .ok (.aload_n 0, 1) := dJ0_charAt_5068e_0g.2.2.2.2.2.2.2.2.1
theorem dJ0_charAt_5068e_17 : decode cJ0_charAt_5068e 17 = .ok (.getfield 9, 3) := dJ0_charAt_5068e_0g.2.2.2.2.2.2.2.2.2
theorem dJ0_charAt_5068e_20g : (decode cJ0_charAt_5068e 20 = .ok (.iload_n 1, 1)) ∧ (decode cJ0_charAt_5068e 21 = .ok (.invokestatic 498, 3)) ∧ (decode cJ0_charAt_5068e 24 = .ok (.ireturn, 1)) := by decide +kernel
theorem dJ0_charAt_5068e_20 : decode cJ0_charAt_5068e 20 = .ok (.iload_n 1, 1) := dJ0_charAt_5068e_20g.1
theorem dJ0_charAt_5068e_21 : decode cJ0_charAt_5068e 21 = .ok (.invokestatic 498, 3) := dJ0_charAt_5068e_20g.2.1
theorem dJ0_charAt_5068e_24 : decode cJ0_charAt_5068e 24 = .ok (.ireturn, 1) := dJ0_charAt_5068e_20g.2.2
set_option maxHeartbeats 4000000 in
set_option maxRecDepth 100000 in
theorem c_J0_charAt_5068e (l : Launch) (adK adV : Nat → Nat) (H0 : Heap) (x1 : Int32) (hx1 : 0 ≤ x1.toInt ∧ x1.toInt ≤ 135) : Met l yJ0_charAt_5068e (tb (.code yJ0_charAt_5068e cJ0_charAt_5068e 2 (some .char))) (rm 3) (va_Pc [.ref (adK 0), .int x1] (PSW adK adV H0)) (QS H0 (fun r => narrow .char (.int (r : Int32)) = .int (r : Int32))) 0 0 (fun _ => False) := by
  refine Met.ofW (cc := cJ0_charAt_5068e) (maxL := 2) (ret := (some .char)) (by decide) rfl ?_
  intro p e s m args below meth c s₁ B hml hv
  obtain ⟨hav, rfl, hN, hWS⟩ := hv
  have hx := B.exec
  have hb := B.bytes
  have hr := B.returns
  have hts := atoms_spec (ws := tb (.code yJ0_charAt_5068e cJ0_charAt_5068e 2 (some .char))) B.pre
  have hown : s.vm.findClass RJ0 = some m.cls := findClass_of_methodNamed B.named
  have hlocks := B.notSynchronized
  have hS : va_S (fun _ => False) s.heap s.heap [] := va_S.rf
  have hl := lv_entry ([.ref (adK 0), .int x1]) (n := 2) (Nat.le_of_ble_eq_true rfl)
  rw [show entryFrame m args 2 = entryFrame m ([.ref (adK 0), .int x1] : List Value).toArray 2 from by rw [hav], lg_entry_eq]
  generalize (lg_sl ([.ref (adK 0), .int x1]) ++ List.replicate (2 - (lg_sl ([.ref (adK 0), .int x1])).length) Slot.unset).toArray = ls at hl ⊢
  have hl : lv_has ls 2 [(0, .ref (adK 0)), (1, .int x1)] := hl
  generalize hR : (headSpec (tb (.code yJ0_charAt_5068e cJ0_charAt_5068e 2 (some .char))) (rm 3)).room = R
  have hR := hR.symm
  generalize hQ : MQ below (QS s.heap (fun r => narrow .char (.int (r : Int32)) = .int (r : Int32))) args s 0 0 (fun _ => False) = QF
  have hQ := hQ.symm
  refine lv_aload_n hx hb dJ0_charAt_5068e_0 rfl (lv_at hl 0 rfl) ?_
  refine sw_V (As := []) (rest := []) (n := 0) (d := 0) ⟨hx, hb, hml, hown, hts⟩ (c_J0_isLatin1_aae02 l adK adV s.heap) wd_664 wd_665 wd_666 wd_16 wd_667 (by decide +kernel) ⟨by rw [hR]; exact Nat.le_of_ble_eq_true rfl, by rw [hR]; exact Nat.le_of_ble_eq_true rfl⟩ hN hWS hS rfl hl.1 rfl (Nat.le_of_ble_eq_true rfl) dJ0_charAt_5068e_1 ⟨Nat.zero_le _, Nat.zero_le _⟩ (fun r1 locs hp hS => ?_)
  obtain rfl := hp.symm
  refine lv_if_eq (tgt := 16) hx hb dJ0_charAt_5068e_4 (by decide) (fun c => absurd c (by decide)) (fun _ => ?_)
  refine lv_aload_n hx hb dJ0_charAt_5068e_7 rfl (lv_at hl 0 rfl) ?_
  refine vk_getf hx hb (hWS.2.2.1.1 0 (by decide)).2.2.1 hS hown (hts _ (tb_c wd_1871)) (fun _ h => h) dJ0_charAt_5068e_8 ?_
  refine lv_iload_n hx hb dJ0_charAt_5068e_11 rfl (lv_at hl 1 rfl) ?_
  refine sw_S (As := [.ref (adV 0), .int x1]) (rest := []) (n := 2) (d := 2) ⟨hx, hb, hml, hown, hts⟩ (c_J1_charAt_3b067 l adK adV s.heap x1 ⟨by omega, by omega⟩) wd_670 wd_671 wd_17 wd_672 (by decide +kernel) ⟨by rw [hR]; exact Nat.le_of_ble_eq_true rfl, by rw [hR]; exact Nat.le_of_ble_eq_true rfl⟩ hN hWS hS rfl hl.1 rfl (Nat.le_of_ble_eq_true rfl) dJ0_charAt_5068e_12 ⟨Nat.zero_le _, Nat.zero_le _⟩ (fun r2 locs hp hS => ?_)
  have hnr := hp
  have hpost : narrow .char (.int (r2 : Int32)) = .int (r2 : Int32) := hnr
  rw [hQ]
  exact W.zret (v := r2) hx hb hr hpost (fun t ht hW => ⟨⟨r2, (), rfl, hpost, ht⟩, hS.F ht⟩) hS.2.2 dJ0_charAt_5068e_15
theorem dX3_findWord_0g : (decode cX3_findWord 0 = .ok (.iconst 0, 1)) ∧ (decode cX3_findWord 1 = .ok (.istore_n 3, 1)) ∧ (decode cX3_findWord 2 = .ok (.iload_n 3, 1)) ∧ (decode cX3_findWord 3 = .ok (.bipush 17, 2)) ∧ (decode cX3_findWord 5 = .ok (.if_icmp .ge 101, 3)) ∧ (decode cX3_findWord 8 = .ok (.iload_n 2, 1)) ∧ (decode cX3_findWord 9 = .ok (.iload_n 1, 1)) ∧ (decode cX3_findWord 10 = .ok (.isub, 1)) ∧ (decode cX3_findWord 11 = .ok (.bipush 8, 2)) ∧ (decode cX3_findWord 13 = .ok (.if_icmp .ge 7, 3)) := by decide +kernel
theorem dX3_findWord_0 : decode cX3_findWord 0 = .ok (.iconst 0, 1) := dX3_findWord_0g.1
theorem dX3_findWord_1 : decode cX3_findWord 1 = .ok (.istore_n 3, 1) := dX3_findWord_0g.2.1
theorem dX3_findWord_2 : decode cX3_findWord 2 = .ok (.iload_n 3, 1) := dX3_findWord_0g.2.2.1
theorem dX3_findWord_3 : decode cX3_findWord 3 = .ok (.bipush 17, 2) := dX3_findWord_0g.2.2.2.1
theorem dX3_findWord_5 : decode cX3_findWord 5 = .ok (.if_icmp .ge 101, 3) := dX3_findWord_0g.2.2.2.2.1
theorem dX3_findWord_8 : decode cX3_findWord 8 = .ok (.iload_n 2, 1) := dX3_findWord_0g.2.2.2.2.2.1
theorem dX3_findWord_9 : decode cX3_findWord 9 = .ok (.iload_n 1, 1) := dX3_findWord_0g.2.2.2.2.2.2.1
theorem dX3_findWord_10 : decode cX3_findWord 10 = .ok (.isub, 1) := dX3_findWord_0g.2.2.2.2.2.2.2.1
theorem dX3_findWord_11 : decode cX3_findWord 11 = .ok (.bipush 8, 2) := dX3_findWord_0g.2.2.2.2.2.2.2.2.1
theorem dX3_findWord_13 : decode cX3_findWord 13 = .ok (.if_icmp .ge 7, 3) := dX3_findWord_0g.2.2.2.2.2.2.2.2.2
theorem dX3_findWord_16g : (decode cX3_findWord 16 = .ok (.iconst 1, 1)) ∧ (decode cX3_findWord 17 = .ok (.goto 4, 3)) ∧ (decode cX3_findWord 20 = .ok (.iconst 0, 1)) ∧ (decode cX3_findWord 21 = .ok (.istore 4, 2)) ∧ (decode cX3_findWord 23 = .ok (.iconst 0, 1)) ∧ (decode cX3_findWord 24 = .ok (.istore 5, 2)) ∧ (decode cX3_findWord 26 = .ok (.iload 4, 2)) ∧ (decode cX3_findWord 28 = .ok (.ifCond .eq 61, 3)) ∧ (decode cX3_findWord 31 = .ok (.iload 5, 2)) ∧ (decode cX3_findWord 33 = .ok (.bipush 8, 2)) := by decide +kernel
theorem dX3_findWord_16 : decode cX3_findWord 16 = .ok (.iconst 1, 1) := dX3_findWord_16g.1
theorem dX3_findWord_17 : decode cX3_findWord 17 = .ok (.goto 4, 3) := dX3_findWord_16g.2.1
theorem dX3_findWord_20 : decode cX3_findWord 20 = .ok (.iconst 0, 1) := dX3_findWord_16g.2.2.1
theorem dX3_findWord_21 : decode cX3_findWord 21 = .ok (.istore 4, 2) := dX3_findWord_16g.2.2.2.1
theorem dX3_findWord_23 : decode cX3_findWord 23 = .ok (.iconst 0, 1) := dX3_findWord_16g.2.2.2.2.1
theorem dX3_findWord_24 : decode cX3_findWord 24 = .ok (.istore 5, 2) := dX3_findWord_16g.2.2.2.2.2.1
theorem dX3_findWord_26 : decode cX3_findWord 26 = .ok (.iload 4, 2) := dX3_findWord_16g.2.2.2.2.2.2.1
theorem dX3_findWord_28 : decode cX3_findWord 28 = .ok (.ifCond .eq 61, 3) := dX3_findWord_16g.2.2.2.2.2.2.2.1
theorem dX3_findWord_31 : decode cX3_findWord 31 = .ok (.iload 5, 2) := dX3_findWord_16g.2.2.2.2.2.2.2.2.1
theorem dX3_findWord_33 : decode cX3_findWord 33 = .ok (.bipush 8, 2) := dX3_findWord_16g.2.2.2.2.2.2.2.2.2
theorem dX3_findWord_35g : (decode cX3_findWord 35 = .ok (.if_icmp .ge 54, 3)) ∧ (decode cX3_findWord 38 = .ok (.iload_n 1, 1)) ∧ (decode cX3_findWord 39 = .ok (.iload 5, 2)) ∧ (decode cX3_findWord 41 = .ok (.iadd, 1)) ∧ (decode cX3_findWord 42 = .ok (.iload_n 2, 1)) ∧ (decode cX3_findWord 43 = .ok (.if_icmp .ge 12, 3)) ∧ (decode cX3_findWord 46 = .ok (.aload_n 0, 1)) ∧ (decode cX3_findWord 47 = .ok (.iload_n 1, 1)) ∧ (decode cX3_findWord 48 = .ok (.iload 5, 2)) ∧ (decode cX3_findWord 50 = .ok (.iadd, 1)) := by decide +kernel
theorem dX3_findWord_35 : decode cX3_findWord 35 = .ok (.if_icmp .ge 54, 3) := dX3_findWord_35g.1
theorem dX3_findWord_38 : decode cX3_findWord 38 = .ok (.iload_n 1, 1) := dX3_findWord_35g.2.1
theorem dX3_findWord_39 : decode cX3_findWord 39 = .ok (.iload 5, 2) := dX3_findWord_35g.2.2.1
theorem dX3_findWord_41 : decode cX3_findWord 41 = .ok (.iadd, 1) := dX3_findWord_35g.2.2.2.1
theorem dX3_findWord_42 : decode cX3_findWord 42 = .ok (.iload_n 2, 1) := dX3_findWord_35g.2.2.2.2.1
theorem dX3_findWord_43 : decode cX3_findWord 43 = .ok (.if_icmp .ge 12, 3) := dX3_findWord_35g.2.2.2.2.2.1
theorem dX3_findWord_46 : decode cX3_findWord 46 = .ok (.aload_n 0, 1) := dX3_findWord_35g.2.2.2.2.2.2.1
theorem dX3_findWord_47 : decode cX3_findWord 47 = .ok (.iload_n 1, 1) := dX3_findWord_35g.2.2.2.2.2.2.2.1
theorem dX3_findWord_48 : decode cX3_findWord 48 = .ok (.iload 5, 2) := dX3_findWord_35g.2.2.2.2.2.2.2.2.1
theorem dX3_findWord_50 : decode cX3_findWord 50 = .ok (.iadd, 1) := dX3_findWord_35g.2.2.2.2.2.2.2.2.2
theorem dX3_findWord_51g : (decode cX3_findWord 51 = .ok (.iaload, 1)) ∧ (decode cX3_findWord 52 = .ok (.goto 5, 3)) ∧ (decode cX3_findWord 55 = .ok (.bipush 32, 2)) ∧ (decode cX3_findWord 57 = .ok (.istore 6, 2)) ∧ (decode cX3_findWord 59 = .ok (.iload 6, 2)) ∧ (decode cX3_findWord 61 = .ok (.ldc 89, 2)) ∧ (decode cX3_findWord 63 = .ok (.iload_n 3, 1)) ∧ (decode cX3_findWord 64 = .ok (.bipush 8, 2)) ∧ (decode cX3_findWord 66 = .ok (.imul, 1)) ∧ (decode cX3_findWord 67 = .ok (.iload 5, 2)) := by decide +kernel
theorem dX3_findWord_51 : decode cX3_findWord 51 = .ok (.iaload, 1) := dX3_findWord_51g.1
theorem dX3_findWord_52 : decode cX3_findWord 52 = .ok (.goto 5, 3) := dX3_findWord_51g.2.1
theorem dX3_findWord_55 : decode cX3_findWord 55 = .ok (.bipush 32, 2) := dX3_findWord_51g.2.2.1
theorem dX3_findWord_57 : decode cX3_findWord 57 = .ok (.istore 6, 2) := dX3_findWord_51g.2.2.2.1
theorem dX3_findWord_59 : decode cX3_findWord 59 = .ok (.iload 6, 2) := dX3_findWord_51g.2.2.2.2.1
theorem dX3_findWord_61 : decode cX3_findWord 61 = .ok (.ldc 89, 2) := dX3_findWord_51g.2.2.2.2.2.1
theorem dX3_findWord_63 : decode cX3_findWord 63 = .ok (.iload_n 3, 1) := dX3_findWord_51g.2.2.2.2.2.2.1
theorem dX3_findWord_64 : decode cX3_findWord 64 = .ok (.bipush 8, 2) := dX3_findWord_51g.2.2.2.2.2.2.2.1
theorem dX3_findWord_66 : decode cX3_findWord 66 = .ok (.imul, 1) := dX3_findWord_51g.2.2.2.2.2.2.2.2.1
theorem dX3_findWord_67 : decode cX3_findWord 67 = .ok (.iload 5, 2) := dX3_findWord_51g.2.2.2.2.2.2.2.2.2
theorem dX3_findWord_69g : (decode cX3_findWord 69 = .ok (.iadd, 1)) ∧ (decode cX3_findWord 70 = .ok (.invokevirtual 91, 3)) ∧ (decode cX3_findWord 73 = .ok (.if_icmp .ne 7, 3)) ∧ (decode cX3_findWord 76 = .ok (.iconst 1, 1)) ∧ (decode cX3_findWord 77 = .ok (.goto 4, 3)) ∧ (decode cX3_findWord 80 = .ok (.iconst 0, 1)) ∧ (decode cX3_findWord 81 = .ok (.istore 4, 2)) ∧ (decode cX3_findWord 83 = .ok (.iinc 5 1, 3)) ∧ (decode cX3_findWord 86 = .ok (.goto (-60), 3)) ∧ (decode cX3_findWord 89 = .ok (.iload 4, 2)) := by decide +kernel
theorem dX3_findWord_69 : decode cX3_findWord 69 = .ok (.iadd, 1) := dX3_findWord_69g.1
theorem dX3_findWord_70 : decode cX3_findWord 70 = .ok (.invokevirtual 91, 3) := dX3_findWord_69g.2.1
theorem dX3_findWord_73 : decode cX3_findWord 73 = .ok (.if_icmp .ne 7, 3) := dX3_findWord_69g.2.2.1
theorem dX3_findWord_76 : decode cX3_findWord 76 = .ok (.iconst 1, 1) := dX3_findWord_69g.2.2.2.1
theorem dX3_findWord_77 : decode cX3_findWord 77 = .ok (.goto 4, 3) := dX3_findWord_69g.2.2.2.2.1
theorem dX3_findWord_80 : decode cX3_findWord 80 = .ok (.iconst 0, 1) := dX3_findWord_69g.2.2.2.2.2.1
theorem dX3_findWord_81 : decode cX3_findWord 81 = .ok (.istore 4, 2) := dX3_findWord_69g.2.2.2.2.2.2.1
theorem dX3_findWord_83 : decode cX3_findWord 83 = .ok (.iinc 5 1, 3) := dX3_findWord_69g.2.2.2.2.2.2.2.1
theorem dX3_findWord_86 : decode cX3_findWord 86 = .ok (.goto (-60), 3) := dX3_findWord_69g.2.2.2.2.2.2.2.2.1
theorem dX3_findWord_89 : decode cX3_findWord 89 = .ok (.iload 4, 2) := dX3_findWord_69g.2.2.2.2.2.2.2.2.2
theorem dX3_findWord_91g : (decode cX3_findWord 91 = .ok (.ifCond .eq 9, 3)) ∧ (decode cX3_findWord 94 = .ok (.sipush 256, 3)) ∧ (decode cX3_findWord 97 = .ok (.iload_n 3, 1)) ∧ (decode cX3_findWord 98 = .ok (.iadd, 1)) ∧ (decode cX3_findWord 99 = .ok (.ireturn, 1)) ∧ (decode cX3_findWord 100 = .ok (.iinc 3 1, 3)) ∧ (decode cX3_findWord 103 = .ok (.goto (-101), 3)) ∧ (decode cX3_findWord 106 = .ok (.bipush (-3), 2)) ∧ (decode cX3_findWord 108 = .ok (.ireturn, 1)) := by decide +kernel
theorem dX3_findWord_91 : decode cX3_findWord 91 = .ok (.ifCond .eq 9, 3) := dX3_findWord_91g.1
theorem dX3_findWord_94 : decode cX3_findWord 94 = .ok (.sipush 256, 3) := dX3_findWord_91g.2.1
theorem dX3_findWord_97 : decode cX3_findWord 97 = .ok (.iload_n 3, 1) := dX3_findWord_91g.2.2.1
theorem dX3_findWord_98 : decode cX3_findWord 98 = .ok (.iadd, 1) := dX3_findWord_91g.2.2.2.1
theorem dX3_findWord_99 : decode cX3_findWord 99 = .ok (.ireturn, 1) := dX3_findWord_91g.2.2.2.2.1
theorem dX3_findWord_100 : decode cX3_findWord 100 = .ok (.iinc 3 1, 3) := dX3_findWord_91g.2.2.2.2.2.1
theorem dX3_findWord_103 : decode cX3_findWord 103 = .ok (.goto (-101), 3) := dX3_findWord_91g.2.2.2.2.2.2.1
theorem dX3_findWord_106 : decode cX3_findWord 106 = .ok (.bipush (-3), 2) := dX3_findWord_91g.2.2.2.2.2.2.2.1
theorem dX3_findWord_108 : decode cX3_findWord 108 = .ok (.ireturn, 1) := dX3_findWord_91g.2.2.2.2.2.2.2.2
set_option maxHeartbeats 4000000 in
set_option maxRecDepth 100000 in
theorem c_X3_findWord (l : Launch) (E : Nat → Nat) (D : va_G) (G : th_G) (adK adV : Nat → Nat) (H0 : Heap) (p0 : Nat) (hp0 : G p0 = some (0, 400)) (x1 x2 : Int32) (hx1 : 0 ≤ x1.toInt ∧ x1.toInt ≤ 400) (hx2 : 0 ≤ x2.toInt ∧ x2.toInt ≤ 400) : Met l yX3_findWord (tb (.code yX3_findWord cX3_findWord 7 (some .int))) (rm 4) (va_Pc [.ref p0, .int x1, .int x2] (PST E D G adK adV H0)) (QS H0 (fun r => True)) 0 0 (fun _ => False) := by
  refine Met.ofW (cc := cX3_findWord) (maxL := 7) (ret := (some .int)) (by decide) rfl ?_
  intro p e s m args below meth c s₁ B hml hv
  obtain ⟨hav, rfl, ⟨hI, hN, hK⟩, hWS⟩ := hv
  have hx := B.exec
  have hb := B.bytes
  have hr := B.returns
  have hts := atoms_spec (ws := tb (.code yX3_findWord cX3_findWord 7 (some .int))) B.pre
  have hown : s.vm.findClass RX3 = some m.cls := findClass_of_methodNamed B.named
  have hlocks := B.notSynchronized
  have hS : va_S (fun _ => False) s.heap s.heap [] := va_S.rf
  have hl := lv_entry ([.ref p0, .int x1, .int x2]) (n := 7) (Nat.le_of_ble_eq_true rfl)
  rw [show entryFrame m args 7 = entryFrame m ([.ref p0, .int x1, .int x2] : List Value).toArray 7 from by rw [hav], lg_entry_eq]
  generalize (lg_sl ([.ref p0, .int x1, .int x2]) ++ List.replicate (7 - (lg_sl ([.ref p0, .int x1, .int x2])).length) Slot.unset).toArray = ls at hl ⊢
  have hl : lv_has ls 7 [(0, .ref p0), (1, .int x1), (2, .int x2)] := hl
  generalize hR : (headSpec (tb (.code yX3_findWord cX3_findWord 7 (some .int))) (rm 4)).room = R
  have hR := hR.symm
  generalize hQ : MQ below (QS s.heap (fun r => True)) args s 0 0 (fun _ => False) = QF
  have hQ := hQ.symm
  have J_2 : ∀ (nn : Nat) (locs : List Loc) (ls : Array Slot) (v560 : Int32) , (Int.toNat (17 - v560.toInt) = nn) → lv_has ls 7 [(3, .int v560), (0, .ref p0), (1, .int x1), (2, .int x2)] → ((0 : Int) ≤ v560.toInt ∧ v560.toInt ≤ 17) → ((0 : Int) ≤ x1.toInt ∧ x1.toInt ≤ 400) → ((0 : Int) ≤ x2.toInt ∧ x2.toInt ≤ 400) → va_S (fun _ => False) s.heap s.heap locs → W p l e R s m args below meth c s.heap locs 0 0 QF (F0 m 2 ls []) := by
    intro nn
    induction nn using Nat.strongRecOn with
    | ind nn ih_2 =>
      intro locs ls v560  hm hl k561 k562 k563 hS
      have J_26 : ∀ (nn : Nat) (locs : List Loc) (ls : Array Slot) (v564 : Int32) (v565 : Int32) , (Int.toNat (8 - v564.toInt) = nn) → lv_has ls 7 [(5, .int v564), (4, .int v565), (3, .int v560), (0, .ref p0), (1, .int x1), (2, .int x2)] → ((0 : Int) ≤ v564.toInt ∧ v564.toInt ≤ 8) → ((0 : Int) ≤ v565.toInt ∧ v565.toInt ≤ 1) → ((0 : Int) ≤ v560.toInt ∧ v560.toInt ≤ 16) → va_S (fun _ => False) s.heap s.heap locs → W p l e R s m args below meth c s.heap locs 0 0 QF (F0 m 26 ls []) := by
        intro nn
        induction nn using Nat.strongRecOn with
        | ind nn ih_26 =>
          intro locs ls v564 v565  hm hl k567 k568 k569 hS
          refine lv_iload hx hb dX3_findWord_26 (lv_at hl 1 rfl) ?_
          refine lv_if_eq (tgt := 89) hx hb dX3_findWord_28 (by decide) (fun c570 => ?_) (fun c570 => ?_)
          · skip
            have k571 := iv_eq (X := v565.toInt) (Y := (0)) rfl (by decide) c570
            refine lv_iload hx hb dX3_findWord_89 (lv_at hl 1 rfl) ?_
            refine lv_if_eq (tgt := 100) hx hb dX3_findWord_91 (by decide) (fun c572 => ?_) (fun c572 => ?_)
            · skip
              have k573 := iv_eq (X := v565.toInt) (Y := (0)) rfl (by decide) c572
              obtain ⟨v574, e575⟩ : ∃ y : Int32, y = v560 + (1) := ⟨_, rfl⟩
              have tv574 : v574.toInt = v560.toInt + (1) := iv_add rfl (by decide) e575 (by omega) (by omega)
              refine lv_iinc (v := v574) (lv' := [(3, .int v574), (5, .int v564), (4, .int v565), (0, .ref p0), (1, .int x1), (2, .int x2)]) hx hb dX3_findWord_100 hl (k := 2) rfl (by rw [e575]; rfl) (by decide) rfl (fun ls hl => ?_)
              refine lv_goto (tgt := 2) hx hb dX3_findWord_103 (by decide) ?_
              exact ih_2 _ (by omega) locs ls v574  rfl (lv_sub hl [0, 3, 4, 5] rfl) ⟨by omega, by omega⟩ ⟨by omega, by omega⟩ ⟨by omega, by omega⟩ hS
            · skip
              have k576 := iv_ne (X := v565.toInt) (Y := (0)) rfl (by decide) c572
              exfalso; omega
          · skip
            have k577 := iv_ne (X := v565.toInt) (Y := (0)) rfl (by decide) c570
            refine lv_iload hx hb dX3_findWord_31 (lv_at hl 0 rfl) ?_
            refine lv_bipush (v := 8) hx hb dX3_findWord_33 (by decide) ?_
            refine lv_icmp_ge (tgt := 89) hx hb dX3_findWord_35 (by decide) (fun c578 => ?_) (fun c578 => ?_)
            · skip
              have k579 := iv_le (X := (8)) (Y := v564.toInt) (by decide) rfl c578
              refine lv_iload hx hb dX3_findWord_89 (lv_at hl 1 rfl) ?_
              refine lv_if_eq (tgt := 100) hx hb dX3_findWord_91 (by decide) (fun c580 => ?_) (fun c580 => ?_)
              · skip
                have k581 := iv_eq (X := v565.toInt) (Y := (0)) rfl (by decide) c580
                exfalso; omega
              · skip
                have k582 := iv_ne (X := v565.toInt) (Y := (0)) rfl (by decide) c580
                refine lv_sipush (v := 256) hx hb dX3_findWord_94 (by decide) ?_
                refine lv_iload_n hx hb dX3_findWord_97 rfl (lv_at hl 2 rfl) ?_
                refine lv_iadd hx hb dX3_findWord_98 ?_
                refine lv_topi (fun v583 e584 => ?_)
                have tv583 : v583.toInt = (256) + v560.toInt := iv_add (by decide) rfl e584 (by omega) (by omega)
                have hpost : True := trivial
                rw [hQ]
                exact W.iret (v := v583) hx hb hr (fun t ht hW => ⟨⟨v583, (), rfl, hpost, ht⟩, hS.F ht⟩) hS.2.2 dX3_findWord_99
            · skip
              have k585 := iv_nle (X := (8)) (Y := v564.toInt) (by decide) rfl c578
              refine lv_iload_n hx hb dX3_findWord_38 rfl (lv_at hl 4 rfl) ?_
              refine lv_iload hx hb dX3_findWord_39 (lv_at hl 0 rfl) ?_
              refine lv_iadd hx hb dX3_findWord_41 ?_
              refine lv_topi (fun v586 e587 => ?_)
              have tv586 : v586.toInt = x1.toInt + v564.toInt := iv_add rfl rfl e587 (by omega) (by omega)
              refine lv_iload_n hx hb dX3_findWord_42 rfl (lv_at hl 5 rfl) ?_
              refine lv_icmp_ge (tgt := 55) hx hb dX3_findWord_43 (by decide) (fun c588 => ?_) (fun c588 => ?_)
              · skip
                have k589 := iv_le (X := x2.toInt) (Y := v586.toInt) rfl rfl c588
                refine lv_bipush (v := 32) hx hb dX3_findWord_55 (by decide) ?_
                refine lv_istore (lv' := [(6, .int 32), (5, .int v564), (4, .int v565), (3, .int v560), (0, .ref p0), (1, .int x1), (2, .int x2)]) hx hb dX3_findWord_57 hl (by decide) rfl (fun ls hl => ?_)
                refine lv_iload hx hb dX3_findWord_59 (lv_at hl 0 rfl) ?_
                refine va_ldcS hx hb hown hWS.2.2.2 dX3_findWord_61 ?_
                refine lv_iload_n hx hb dX3_findWord_63 rfl (lv_at hl 3 rfl) ?_
                refine lv_bipush (v := 8) hx hb dX3_findWord_64 (by decide) ?_
                refine lv_imul hx hb dX3_findWord_66 ?_
                refine lv_topi (fun v590 e591 => ?_)
                have tv590 : v590.toInt = v560.toInt * (8) := iv_mul rfl (by decide) e591 (by omega) (by omega)
                refine lv_iload hx hb dX3_findWord_67 (lv_at hl 1 rfl) ?_
                refine lv_iadd hx hb dX3_findWord_69 ?_
                refine lv_topi (fun v592 e593 => ?_)
                have tv592 : v592.toInt = v590.toInt + v564.toInt := iv_add rfl rfl e593 (by omega) (by omega)
                refine sw_V (As := [.int v592]) (rest := [.int 32]) (n := 1) (d := 3) ⟨hx, hb, hml, hown, hts⟩ (c_J0_charAt_5068e l adK adV s.heap v592 ⟨by omega, by omega⟩) wd_660 wd_661 wd_662 wd_16 wd_663 (by decide +kernel) ⟨by rw [hR]; exact Nat.le_of_ble_eq_true rfl, by rw [hR]; exact Nat.le_of_ble_eq_true rfl⟩ hN hWS hS rfl hl.1 rfl (Nat.le_of_ble_eq_true rfl) dX3_findWord_70 ⟨Nat.zero_le _, Nat.zero_le _⟩ (fun r594 locs hp hS => ?_)
                have hnr := hp
                have k595 := iv_lo r594
                have k596 := iv_hi r594
                refine lv_icmp_ne (tgt := 80) hx hb dX3_findWord_73 (by decide) (fun c597 => ?_) (fun c597 => ?_)
                · skip
                  have k598 := iv_ne (X := (32)) (Y := r594.toInt) (by decide) rfl c597
                  refine lv_iconst (v := 0) hx hb dX3_findWord_80 (by decide) ?_
                  refine lv_istore (lv' := [(4, .int 0), (6, .int 32), (5, .int v564), (3, .int v560), (0, .ref p0), (1, .int x1), (2, .int x2)]) hx hb dX3_findWord_81 hl (by decide) rfl (fun ls hl => ?_)
                  obtain ⟨v599, e600⟩ : ∃ y : Int32, y = v564 + (1) := ⟨_, rfl⟩
                  have tv599 : v599.toInt = v564.toInt + (1) := iv_add rfl (by decide) e600 (by omega) (by omega)
                  refine lv_iinc (v := v599) (lv' := [(5, .int v599), (4, .int 0), (6, .int 32), (3, .int v560), (0, .ref p0), (1, .int x1), (2, .int x2)]) hx hb dX3_findWord_83 hl (k := 2) rfl (by rw [e600]; rfl) (by decide) rfl (fun ls hl => ?_)
                  refine lv_goto (tgt := 26) hx hb dX3_findWord_86 (by decide) ?_
                  exact ih_26 _ (by omega) locs ls v599 0  rfl (lv_sub hl [0, 1, 3, 4, 5, 6] rfl) ⟨by omega, by omega⟩ ⟨by decide, by decide⟩ ⟨by omega, by omega⟩ hS
                · skip
                  have k601 := iv_eq (X := (32)) (Y := r594.toInt) (by decide) rfl c597
                  refine lv_iconst (v := 1) hx hb dX3_findWord_76 (by decide) ?_
                  refine lv_goto (tgt := 81) hx hb dX3_findWord_77 (by decide) ?_
                  refine lv_istore (lv' := [(4, .int 1), (6, .int 32), (5, .int v564), (3, .int v560), (0, .ref p0), (1, .int x1), (2, .int x2)]) hx hb dX3_findWord_81 hl (by decide) rfl (fun ls hl => ?_)
                  obtain ⟨v602, e603⟩ : ∃ y : Int32, y = v564 + (1) := ⟨_, rfl⟩
                  have tv602 : v602.toInt = v564.toInt + (1) := iv_add rfl (by decide) e603 (by omega) (by omega)
                  refine lv_iinc (v := v602) (lv' := [(5, .int v602), (4, .int 1), (6, .int 32), (3, .int v560), (0, .ref p0), (1, .int x1), (2, .int x2)]) hx hb dX3_findWord_83 hl (k := 2) rfl (by rw [e603]; rfl) (by decide) rfl (fun ls hl => ?_)
                  refine lv_goto (tgt := 26) hx hb dX3_findWord_86 (by decide) ?_
                  exact ih_26 _ (by omega) locs ls v602 1  rfl (lv_sub hl [0, 1, 3, 4, 5, 6] rfl) ⟨by omega, by omega⟩ ⟨by decide, by decide⟩ ⟨by omega, by omega⟩ hS
              · skip
                have k604 := iv_nle (X := x2.toInt) (Y := v586.toInt) rfl rfl c588
                refine lv_aload_n hx hb dX3_findWord_46 rfl (lv_at hl 3 rfl) ?_
                refine lv_iload_n hx hb dX3_findWord_47 rfl (lv_at hl 4 rfl) ?_
                refine lv_iload hx hb dX3_findWord_48 (lv_at hl 0 rfl) ?_
                refine lv_iadd hx hb dX3_findWord_50 ?_
                refine lv_topi (fun v605 e606 => ?_)
                have tv605 : v605.toInt = x1.toInt + v564.toInt := iv_add rfl rfl e606 (by omega) (by omega)
                obtain ⟨F607, hA608⟩ := op_0 hI hp0 List.not_mem_nil
                refine th_iald hx hb hK hA608 0 rfl (iv_in (X := v605.toInt) rfl (by omega) (by omega)) dX3_findWord_51 (fun v609 e610 => ?_)
                refine lv_goto (tgt := 57) hx hb dX3_findWord_52 (by decide) ?_
                refine lv_istore (lv' := [(6, .int v609), (5, .int v564), (4, .int v565), (3, .int v560), (0, .ref p0), (1, .int x1), (2, .int x2)]) hx hb dX3_findWord_57 hl (by decide) rfl (fun ls hl => ?_)
                refine lv_iload hx hb dX3_findWord_59 (lv_at hl 0 rfl) ?_
                refine va_ldcS hx hb hown hWS.2.2.2 dX3_findWord_61 ?_
                refine lv_iload_n hx hb dX3_findWord_63 rfl (lv_at hl 3 rfl) ?_
                refine lv_bipush (v := 8) hx hb dX3_findWord_64 (by decide) ?_
                refine lv_imul hx hb dX3_findWord_66 ?_
                refine lv_topi (fun v611 e612 => ?_)
                have tv611 : v611.toInt = v560.toInt * (8) := iv_mul rfl (by decide) e612 (by omega) (by omega)
                refine lv_iload hx hb dX3_findWord_67 (lv_at hl 1 rfl) ?_
                refine lv_iadd hx hb dX3_findWord_69 ?_
                refine lv_topi (fun v613 e614 => ?_)
                have tv613 : v613.toInt = v611.toInt + v564.toInt := iv_add rfl rfl e614 (by omega) (by omega)
                refine sw_V (As := [.int v613]) (rest := [.int v609]) (n := 1) (d := 3) ⟨hx, hb, hml, hown, hts⟩ (c_J0_charAt_5068e l adK adV s.heap v613 ⟨by omega, by omega⟩) wd_660 wd_661 wd_662 wd_16 wd_663 (by decide +kernel) ⟨by rw [hR]; exact Nat.le_of_ble_eq_true rfl, by rw [hR]; exact Nat.le_of_ble_eq_true rfl⟩ hN hWS hS rfl hl.1 rfl (Nat.le_of_ble_eq_true rfl) dX3_findWord_70 ⟨Nat.zero_le _, Nat.zero_le _⟩ (fun r615 locs hp hS => ?_)
                have hnr := hp
                have k616 := iv_lo v609
                have k617 := iv_hi v609
                have k618 := iv_lo r615
                have k619 := iv_hi r615
                refine lv_icmp_ne (tgt := 80) hx hb dX3_findWord_73 (by decide) (fun c620 => ?_) (fun c620 => ?_)
                · skip
                  have k621 := iv_ne (X := v609.toInt) (Y := r615.toInt) rfl rfl c620
                  refine lv_iconst (v := 0) hx hb dX3_findWord_80 (by decide) ?_
                  refine lv_istore (lv' := [(4, .int 0), (6, .int v609), (5, .int v564), (3, .int v560), (0, .ref p0), (1, .int x1), (2, .int x2)]) hx hb dX3_findWord_81 hl (by decide) rfl (fun ls hl => ?_)
                  obtain ⟨v622, e623⟩ : ∃ y : Int32, y = v564 + (1) := ⟨_, rfl⟩
                  have tv622 : v622.toInt = v564.toInt + (1) := iv_add rfl (by decide) e623 (by omega) (by omega)
                  refine lv_iinc (v := v622) (lv' := [(5, .int v622), (4, .int 0), (6, .int v609), (3, .int v560), (0, .ref p0), (1, .int x1), (2, .int x2)]) hx hb dX3_findWord_83 hl (k := 2) rfl (by rw [e623]; rfl) (by decide) rfl (fun ls hl => ?_)
                  refine lv_goto (tgt := 26) hx hb dX3_findWord_86 (by decide) ?_
                  exact ih_26 _ (by omega) locs ls v622 0  rfl (lv_sub hl [0, 1, 3, 4, 5, 6] rfl) ⟨by omega, by omega⟩ ⟨by decide, by decide⟩ ⟨by omega, by omega⟩ hS
                · skip
                  have k624 := iv_eq (X := v609.toInt) (Y := r615.toInt) rfl rfl c620
                  refine lv_iconst (v := 1) hx hb dX3_findWord_76 (by decide) ?_
                  refine lv_goto (tgt := 81) hx hb dX3_findWord_77 (by decide) ?_
                  refine lv_istore (lv' := [(4, .int 1), (6, .int v609), (5, .int v564), (3, .int v560), (0, .ref p0), (1, .int x1), (2, .int x2)]) hx hb dX3_findWord_81 hl (by decide) rfl (fun ls hl => ?_)
                  obtain ⟨v625, e626⟩ : ∃ y : Int32, y = v564 + (1) := ⟨_, rfl⟩
                  have tv625 : v625.toInt = v564.toInt + (1) := iv_add rfl (by decide) e626 (by omega) (by omega)
                  refine lv_iinc (v := v625) (lv' := [(5, .int v625), (4, .int 1), (6, .int v609), (3, .int v560), (0, .ref p0), (1, .int x1), (2, .int x2)]) hx hb dX3_findWord_83 hl (k := 2) rfl (by rw [e626]; rfl) (by decide) rfl (fun ls hl => ?_)
                  refine lv_goto (tgt := 26) hx hb dX3_findWord_86 (by decide) ?_
                  exact ih_26 _ (by omega) locs ls v625 1  rfl (lv_sub hl [0, 1, 3, 4, 5, 6] rfl) ⟨by omega, by omega⟩ ⟨by decide, by decide⟩ ⟨by omega, by omega⟩ hS
      refine lv_iload_n hx hb dX3_findWord_2 rfl (lv_at hl 0 rfl) ?_
      refine lv_bipush (v := 17) hx hb dX3_findWord_3 (by decide) ?_
      refine lv_icmp_ge (tgt := 106) hx hb dX3_findWord_5 (by decide) (fun c627 => ?_) (fun c627 => ?_)
      · skip
        have k628 := iv_le (X := (17)) (Y := v560.toInt) (by decide) rfl c627
        refine lv_bipush (v := (-3)) hx hb dX3_findWord_106 (by decide) ?_
        have hpost : True := trivial
        rw [hQ]
        exact W.iret (v := (-3)) hx hb hr (fun t ht hW => ⟨⟨(-3), (), rfl, hpost, ht⟩, hS.F ht⟩) hS.2.2 dX3_findWord_108
      · skip
        have k629 := iv_nle (X := (17)) (Y := v560.toInt) (by decide) rfl c627
        refine lv_iload_n hx hb dX3_findWord_8 rfl (lv_at hl 3 rfl) ?_
        refine lv_iload_n hx hb dX3_findWord_9 rfl (lv_at hl 2 rfl) ?_
        refine lv_isub hx hb dX3_findWord_10 ?_
        refine lv_topi (fun v630 e631 => ?_)
        have tv630 : v630.toInt = x2.toInt - x1.toInt := iv_sub rfl rfl e631 (by omega) (by omega)
        refine lv_bipush (v := 8) hx hb dX3_findWord_11 (by decide) ?_
        refine lv_icmp_ge (tgt := 20) hx hb dX3_findWord_13 (by decide) (fun c632 => ?_) (fun c632 => ?_)
        · skip
          have k633 := iv_le (X := (8)) (Y := v630.toInt) (by decide) rfl c632
          refine lv_iconst (v := 0) hx hb dX3_findWord_20 (by decide) ?_
          refine lv_istore (lv' := [(4, .int 0), (3, .int v560), (0, .ref p0), (1, .int x1), (2, .int x2)]) hx hb dX3_findWord_21 hl (by decide) rfl (fun ls hl => ?_)
          refine lv_iconst (v := 0) hx hb dX3_findWord_23 (by decide) ?_
          refine lv_istore (lv' := [(5, .int 0), (4, .int 0), (3, .int v560), (0, .ref p0), (1, .int x1), (2, .int x2)]) hx hb dX3_findWord_24 hl (by decide) rfl (fun ls hl => ?_)
          have zl : (0 : Int32).toInt = 0 := by decide
          exact J_26 _ locs ls 0 0  rfl (lv_sub hl [0, 1, 2, 3, 4, 5] rfl) ⟨by decide, by decide⟩ ⟨by decide, by decide⟩ ⟨by omega, by omega⟩ hS
        · skip
          have k634 := iv_nle (X := (8)) (Y := v630.toInt) (by decide) rfl c632
          refine lv_iconst (v := 1) hx hb dX3_findWord_16 (by decide) ?_
          refine lv_goto (tgt := 21) hx hb dX3_findWord_17 (by decide) ?_
          refine lv_istore (lv' := [(4, .int 1), (3, .int v560), (0, .ref p0), (1, .int x1), (2, .int x2)]) hx hb dX3_findWord_21 hl (by decide) rfl (fun ls hl => ?_)
          refine lv_iconst (v := 0) hx hb dX3_findWord_23 (by decide) ?_
          refine lv_istore (lv' := [(5, .int 0), (4, .int 1), (3, .int v560), (0, .ref p0), (1, .int x1), (2, .int x2)]) hx hb dX3_findWord_24 hl (by decide) rfl (fun ls hl => ?_)
          have zl : (0 : Int32).toInt = 0 := by decide
          exact J_26 _ locs ls 0 1  rfl (lv_sub hl [0, 1, 2, 3, 4, 5] rfl) ⟨by decide, by decide⟩ ⟨by decide, by decide⟩ ⟨by omega, by omega⟩ hS
  refine lv_iconst (v := 0) hx hb dX3_findWord_0 (by decide) ?_
  refine lv_istore_n (lv' := [(3, .int 0), (0, .ref p0), (1, .int x1), (2, .int x2)]) hx hb dX3_findWord_1 rfl hl (by decide) rfl (fun ls hl => ?_)
  have zl : (0 : Int32).toInt = 0 := by decide
  exact J_2 _ [] ls 0  rfl (lv_sub hl [0, 1, 2, 3] rfl) ⟨by decide, by decide⟩ ⟨by omega, by omega⟩ ⟨by omega, by omega⟩ hS
theorem dX3_readToken_0g : (decode cX3_readToken 0 = .ok (.iload_n 2, 1)) ∧ (decode cX3_readToken 1 = .ok (.iconst 1, 1)) ∧ (decode cX3_readToken 2 = .ok (.iadd, 1)) ∧ (decode cX3_readToken 3 = .ok (.istore 4, 2)) ∧ (decode cX3_readToken 5 = .ok (.aload_n 1, 1)) ∧ (decode cX3_readToken 6 = .ok (.iload_n 2, 1)) ∧ (decode cX3_readToken 7 = .ok (.iaload, 1)) ∧ (decode cX3_readToken 8 = .ok (.bipush 48, 2)) ∧ (decode cX3_readToken 10 = .ok (.isub, 1)) ∧ (decode cX3_readToken 11 = .ok (.istore 5, 2)) := by decide +kernel
theorem dX3_readToken_0 : decode cX3_readToken 0 = .ok (.iload_n 2, 1) := dX3_readToken_0g.1
theorem dX3_readToken_1 : decode cX3_readToken 1 = .ok (.iconst 1, 1) := dX3_readToken_0g.2.1
theorem dX3_readToken_2 : decode cX3_readToken 2 = .ok (.iadd, 1) := dX3_readToken_0g.2.2.1
theorem dX3_readToken_3 : decode cX3_readToken 3 = .ok (.istore 4, 2) := dX3_readToken_0g.2.2.2.1
theorem dX3_readToken_5 : decode cX3_readToken 5 = .ok (.aload_n 1, 1) := dX3_readToken_0g.2.2.2.2.1
theorem dX3_readToken_6 : decode cX3_readToken 6 = .ok (.iload_n 2, 1) := dX3_readToken_0g.2.2.2.2.2.1
theorem dX3_readToken_7 : decode cX3_readToken 7 = .ok (.iaload, 1) := dX3_readToken_0g.2.2.2.2.2.2.1
theorem dX3_readToken_8 : decode cX3_readToken 8 = .ok (.bipush 48, 2) := dX3_readToken_0g.2.2.2.2.2.2.2.1
theorem dX3_readToken_10 : decode cX3_readToken 10 = .ok (.isub, 1) := dX3_readToken_0g.2.2.2.2.2.2.2.2.1
theorem dX3_readToken_11 : decode cX3_readToken 11 = .ok (.istore 5, 2) := dX3_readToken_0g.2.2.2.2.2.2.2.2.2
theorem dX3_readToken_13g : (decode cX3_readToken 13 = .ok (.aload_n 1, 1)) ∧ (decode cX3_readToken 14 = .ok (.iload_n 2, 1)) ∧ (decode cX3_readToken 15 = .ok (.iaload, 1)) ∧ (decode cX3_readToken 16 = .ok (.invokestatic 79, 3)) ∧ (decode cX3_readToken 19 = .ok (.ifCond .eq 41, 3)) ∧ (decode cX3_readToken 22 = .ok (.iload 4, 2)) ∧ (decode cX3_readToken 24 = .ok (.iload_n 3, 1)) ∧ (decode cX3_readToken 25 = .ok (.if_icmp .ge 19, 3)) ∧ (decode cX3_readToken 28 = .ok (.aload_n 1, 1)) ∧ (decode cX3_readToken 29 = .ok (.iload 4, 2)) := by decide +kernel
theorem dX3_readToken_13 : decode cX3_readToken 13 = .ok (.aload_n 1, 1) := dX3_readToken_13g.1
theorem dX3_readToken_14 : decode cX3_readToken 14 = .ok (.iload_n 2, 1) := dX3_readToken_13g.2.1
theorem dX3_readToken_15 : decode cX3_readToken 15 = .ok (.iaload, 1) := dX3_readToken_13g.2.2.1
theorem dX3_readToken_16 : decode cX3_readToken 16 = .ok (.invokestatic 79, 3) := dX3_readToken_13g.2.2.2.1
theorem dX3_readToken_19 : decode cX3_readToken 19 = .ok (.ifCond .eq 41, 3) := dX3_readToken_13g.2.2.2.2.1
theorem dX3_readToken_22 : decode cX3_readToken 22 = .ok (.iload 4, 2) := dX3_readToken_13g.2.2.2.2.2.1
theorem dX3_readToken_24 : decode cX3_readToken 24 = .ok (.iload_n 3, 1) := dX3_readToken_13g.2.2.2.2.2.2.1
theorem dX3_readToken_25 : decode cX3_readToken 25 = .ok (.if_icmp .ge 19, 3) := dX3_readToken_13g.2.2.2.2.2.2.2.1
theorem dX3_readToken_28 : decode cX3_readToken 28 = .ok (.aload_n 1, 1) := dX3_readToken_13g.2.2.2.2.2.2.2.2.1
theorem dX3_readToken_29 : decode cX3_readToken 29 = .ok (.iload 4, 2) := dX3_readToken_13g.2.2.2.2.2.2.2.2.2
theorem dX3_readToken_31g : (decode cX3_readToken 31 = .ok (.iaload, 1)) ∧ (decode cX3_readToken 32 = .ok (.invokestatic 79, 3)) ∧ (decode cX3_readToken 35 = .ok (.ifCond .eq 9, 3)) ∧ (decode cX3_readToken 38 = .ok (.iinc 4 1, 3)) ∧ (decode cX3_readToken 41 = .ok (.goto (-19), 3)) ∧ (decode cX3_readToken 44 = .ok (.aload_n 0, 1)) ∧ (decode cX3_readToken 45 = .ok (.aload_n 1, 1)) ∧ (decode cX3_readToken 46 = .ok (.iload_n 2, 1)) ∧ (decode cX3_readToken 47 = .ok (.iload 4, 2)) ∧ (decode cX3_readToken 49 = .ok (.invokestatic 83, 3)) := by decide +kernel
theorem dX3_readToken_31 : decode cX3_readToken 31 = .ok (.iaload, 1) := dX3_readToken_31g.1
theorem dX3_readToken_32 : decode cX3_readToken 32 = .ok (.invokestatic 79, 3) := dX3_readToken_31g.2.1
theorem dX3_readToken_35 : decode cX3_readToken 35 = .ok (.ifCond .eq 9, 3) := dX3_readToken_31g.2.2.1
theorem dX3_readToken_38 : decode cX3_readToken 38 = .ok (.iinc 4 1, 3) := dX3_readToken_31g.2.2.2.1
theorem dX3_readToken_41 : decode cX3_readToken 41 = .ok (.goto (-19), 3) := dX3_readToken_31g.2.2.2.2.1
theorem dX3_readToken_44 : decode cX3_readToken 44 = .ok (.aload_n 0, 1) := dX3_readToken_31g.2.2.2.2.2.1
theorem dX3_readToken_45 : decode cX3_readToken 45 = .ok (.aload_n 1, 1) := dX3_readToken_31g.2.2.2.2.2.2.1
theorem dX3_readToken_46 : decode cX3_readToken 46 = .ok (.iload_n 2, 1) := dX3_readToken_31g.2.2.2.2.2.2.2.1
theorem dX3_readToken_47 : decode cX3_readToken 47 = .ok (.iload 4, 2) := dX3_readToken_31g.2.2.2.2.2.2.2.2.1
theorem dX3_readToken_49 : decode cX3_readToken 49 = .ok (.invokestatic 83, 3) := dX3_readToken_31g.2.2.2.2.2.2.2.2.2
theorem dX3_readToken_52g : (decode cX3_readToken 52 = .ok (.iload_n 2, 1)) ∧ (decode cX3_readToken 53 = .ok (.iconst 0, 1)) ∧ (decode cX3_readToken 54 = .ok (.invokevirtual 62, 3)) ∧ (decode cX3_readToken 57 = .ok (.goto 76, 3)) ∧ (decode cX3_readToken 60 = .ok (.aload_n 1, 1)) ∧ (decode cX3_readToken 61 = .ok (.iload_n 2, 1)) ∧ (decode cX3_readToken 62 = .ok (.iaload, 1)) ∧ (decode cX3_readToken 63 = .ok (.invokestatic 86, 3)) ∧ (decode cX3_readToken 66 = .ok (.ifCond .eq 58, 3)) ∧ (decode cX3_readToken 69 = .ok (.iload 4, 2)) := by decide +kernel
theorem dX3_readToken_52 : decode cX3_readToken 52 = .ok (.iload_n 2, 1) := dX3_readToken_52g.1
theorem dX3_readToken_53 : decode cX3_readToken 53 = .ok (.iconst 0, 1) := dX3_readToken_52g.2.1
theorem dX3_readToken_54 : decode cX3_readToken 54 = .ok (.invokevirtual 62, 3) := dX3_readToken_52g.2.2.1
theorem dX3_readToken_57 : decode cX3_readToken 57 = .ok (.goto 76, 3) := dX3_readToken_52g.2.2.2.1
theorem dX3_readToken_60 : decode cX3_readToken 60 = .ok (.aload_n 1, 1) := dX3_readToken_52g.2.2.2.2.1
theorem dX3_readToken_61 : decode cX3_readToken 61 = .ok (.iload_n 2, 1) := dX3_readToken_52g.2.2.2.2.2.1
theorem dX3_readToken_62 : decode cX3_readToken 62 = .ok (.iaload, 1) := dX3_readToken_52g.2.2.2.2.2.2.1
theorem dX3_readToken_63 : decode cX3_readToken 63 = .ok (.invokestatic 86, 3) := dX3_readToken_52g.2.2.2.2.2.2.2.1
theorem dX3_readToken_66 : decode cX3_readToken 66 = .ok (.ifCond .eq 58, 3) := dX3_readToken_52g.2.2.2.2.2.2.2.2.1
theorem dX3_readToken_69 : decode cX3_readToken 69 = .ok (.iload 4, 2) := dX3_readToken_52g.2.2.2.2.2.2.2.2.2
theorem dX3_readToken_71g : (decode cX3_readToken 71 = .ok (.iload_n 3, 1)) ∧ (decode cX3_readToken 72 = .ok (.if_icmp .ge 40, 3)) ∧ (decode cX3_readToken 75 = .ok (.aload_n 1, 1)) ∧ (decode cX3_readToken 76 = .ok (.iload 4, 2)) ∧ (decode cX3_readToken 78 = .ok (.iaload, 1)) ∧ (decode cX3_readToken 79 = .ok (.invokestatic 86, 3)) ∧ (decode cX3_readToken 82 = .ok (.ifCond .eq 30, 3)) ∧ (decode cX3_readToken 85 = .ok (.iload 5, 2)) ∧ (decode cX3_readToken 87 = .ok (.bipush 10, 2)) ∧ (decode cX3_readToken 89 = .ok (.imul, 1)) := by decide +kernel
theorem dX3_readToken_71 : decode cX3_readToken 71 = .ok (.iload_n 3, 1) := dX3_readToken_71g.1
theorem dX3_readToken_72 : decode cX3_readToken 72 = .ok (.if_icmp .ge 40, 3) := dX3_readToken_71g.2.1
theorem dX3_readToken_75 : decode cX3_readToken 75 = .ok (.aload_n 1, 1) := dX3_readToken_71g.2.2.1
theorem dX3_readToken_76 : decode cX3_readToken 76 = .ok (.iload 4, 2) := dX3_readToken_71g.2.2.2.1
theorem dX3_readToken_78 : decode cX3_readToken 78 = .ok (.iaload, 1) := dX3_readToken_71g.2.2.2.2.1
theorem dX3_readToken_79 : decode cX3_readToken 79 = .ok (.invokestatic 86, 3) := dX3_readToken_71g.2.2.2.2.2.1
theorem dX3_readToken_82 : decode cX3_readToken 82 = .ok (.ifCond .eq 30, 3) := dX3_readToken_71g.2.2.2.2.2.2.1
theorem dX3_readToken_85 : decode cX3_readToken 85 = .ok (.iload 5, 2) := dX3_readToken_71g.2.2.2.2.2.2.2.1
theorem dX3_readToken_87 : decode cX3_readToken 87 = .ok (.bipush 10, 2) := dX3_readToken_71g.2.2.2.2.2.2.2.2.1
theorem dX3_readToken_89 : decode cX3_readToken 89 = .ok (.imul, 1) := dX3_readToken_71g.2.2.2.2.2.2.2.2.2
theorem dX3_readToken_90g : (decode cX3_readToken 90 = .ok (.aload_n 1, 1)) ∧ (decode cX3_readToken 91 = .ok (.iload 4, 2)) ∧ (decode cX3_readToken 93 = .ok (.iaload, 1)) ∧ (decode cX3_readToken 94 = .ok (.iadd, 1)) ∧ (decode cX3_readToken 95 = .ok (.bipush 48, 2)) ∧ (decode cX3_readToken 97 = .ok (.isub, 1)) ∧ (decode cX3_readToken 98 = .ok (.sipush 1001, 3)) ∧ (decode cX3_readToken 101 = .ok (.invokestatic 49, 3)) ∧ (decode cX3_readToken 104 = .ok (.istore 5, 2)) ∧ (decode cX3_readToken 106 = .ok (.iinc 4 1, 3)) := by decide +kernel
theorem dX3_readToken_90 : decode cX3_readToken 90 = .ok (.aload_n 1, 1) := dX3_readToken_90g.1
theorem dX3_readToken_91 : decode cX3_readToken 91 = .ok (.iload 4, 2) := dX3_readToken_90g.2.1
theorem dX3_readToken_93 : decode cX3_readToken 93 = .ok (.iaload, 1) := dX3_readToken_90g.2.2.1
theorem dX3_readToken_94 : decode cX3_readToken 94 = .ok (.iadd, 1) := dX3_readToken_90g.2.2.2.1
theorem dX3_readToken_95 : decode cX3_readToken 95 = .ok (.bipush 48, 2) := dX3_readToken_90g.2.2.2.2.1
theorem dX3_readToken_97 : decode cX3_readToken 97 = .ok (.isub, 1) := dX3_readToken_90g.2.2.2.2.2.1
theorem dX3_readToken_98 : decode cX3_readToken 98 = .ok (.sipush 1001, 3) := dX3_readToken_90g.2.2.2.2.2.2.1
theorem dX3_readToken_101 : decode cX3_readToken 101 = .ok (.invokestatic 49, 3) := dX3_readToken_90g.2.2.2.2.2.2.2.1
theorem dX3_readToken_104 : decode cX3_readToken 104 = .ok (.istore 5, 2) := dX3_readToken_90g.2.2.2.2.2.2.2.2.1
theorem dX3_readToken_106 : decode cX3_readToken 106 = .ok (.iinc 4 1, 3) := dX3_readToken_90g.2.2.2.2.2.2.2.2.2
theorem dX3_readToken_109g : (decode cX3_readToken 109 = .ok (.goto (-40), 3)) ∧ (decode cX3_readToken 112 = .ok (.aload_n 0, 1)) ∧ (decode cX3_readToken 113 = .ok (.bipush (-2), 2)) ∧ (decode cX3_readToken 115 = .ok (.iload_n 2, 1)) ∧ (decode cX3_readToken 116 = .ok (.iload 5, 2)) ∧ (decode cX3_readToken 118 = .ok (.invokevirtual 62, 3)) ∧ (decode cX3_readToken 121 = .ok (.goto 12, 3)) ∧ (decode cX3_readToken 124 = .ok (.aload_n 0, 1)) ∧ (decode cX3_readToken 125 = .ok (.aload_n 1, 1)) ∧ (decode cX3_readToken 126 = .ok (.iload_n 2, 1)) := by decide +kernel
theorem dX3_readToken_109 : decode cX3_readToken 109 = .ok (.goto (-40), 3) := dX3_readToken_109g.1
theorem dX3_readToken_112 : decode cX3_readToken 112 = .ok (.aload_n 0, 1) := dX3_readToken_109g.2.1
theorem dX3_readToken_113 : decode cX3_readToken 113 = .ok (.bipush (-2), 2) := dX3_readToken_109g.2.2.1
theorem dX3_readToken_115 : decode cX3_readToken 115 = .ok (.iload_n 2, 1) := dX3_readToken_109g.2.2.2.1
theorem dX3_readToken_116 : decode cX3_readToken 116 = .ok (.iload 5, 2) := dX3_readToken_109g.2.2.2.2.1
theorem dX3_readToken_118 : decode cX3_readToken 118 = .ok (.invokevirtual 62, 3) := dX3_readToken_109g.2.2.2.2.2.1
theorem dX3_readToken_121 : decode cX3_readToken 121 = .ok (.goto 12, 3) := dX3_readToken_109g.2.2.2.2.2.2.1
theorem dX3_readToken_124 : decode cX3_readToken 124 = .ok (.aload_n 0, 1) := dX3_readToken_109g.2.2.2.2.2.2.2.1
theorem dX3_readToken_125 : decode cX3_readToken 125 = .ok (.aload_n 1, 1) := dX3_readToken_109g.2.2.2.2.2.2.2.2.1
theorem dX3_readToken_126 : decode cX3_readToken 126 = .ok (.iload_n 2, 1) := dX3_readToken_109g.2.2.2.2.2.2.2.2.2
theorem dX3_readToken_127g : (decode cX3_readToken 127 = .ok (.iaload, 1)) ∧ (decode cX3_readToken 128 = .ok (.iload_n 2, 1)) ∧ (decode cX3_readToken 129 = .ok (.iconst 0, 1)) ∧ (decode cX3_readToken 130 = .ok (.invokevirtual 62, 3)) ∧ (decode cX3_readToken 133 = .ok (.iload 4, 2)) ∧ (decode cX3_readToken 135 = .ok (.ireturn, 1)) := by decide +kernel
theorem dX3_readToken_127 : decode cX3_readToken 127 = .ok (.iaload, 1) := dX3_readToken_127g.1
theorem dX3_readToken_128 : decode cX3_readToken 128 = .ok (.iload_n 2, 1) := dX3_readToken_127g.2.1
theorem dX3_readToken_129 : decode cX3_readToken 129 = .ok (.iconst 0, 1) := dX3_readToken_127g.2.2.1
theorem dX3_readToken_130 : decode cX3_readToken 130 = .ok (.invokevirtual 62, 3) := dX3_readToken_127g.2.2.2.1
theorem dX3_readToken_133 : decode cX3_readToken 133 = .ok (.iload 4, 2) := dX3_readToken_127g.2.2.2.2.1
theorem dX3_readToken_135 : decode cX3_readToken 135 = .ok (.ireturn, 1) := dX3_readToken_127g.2.2.2.2.2
set_option maxHeartbeats 4000000 in
set_option maxRecDepth 100000 in
theorem c_X3_readToken (l : Launch) (E : Nat → Nat) (D : va_G) (G : th_G) (adK adV : Nat → Nat) (h0 n : Nat) (hG0 : G h0 = some (7, n)) (p1 : Nat) (hp1 : G p1 = some (0, 400)) (x2 x3 : Int32) (hx2 : (0 : Int) ≤ x2.toInt ∧ x2.toInt ≤ 399) (hx3 : (0 : Int) ≤ x3.toInt ∧ x3.toInt ≤ 400) : Met l yX3_readToken (tb (.code yX3_readToken cX3_readToken 6 (some .int))) (rm 5) (va_Pc [.ref h0, .ref p1, .int x2, .int x3] (th_PW E D G adK adV)) (QI E D G (fun r => True)) 0 0 (th_A G) := by
  refine Met.ofW (cc := cX3_readToken) (maxL := 6) (ret := (some .int)) (by decide) rfl ?_
  intro p e s m args below meth c s₁ B hml hv
  obtain ⟨hav, ⟨hI, hN, hK⟩, hWS⟩ := hv
  have hx := B.exec
  have hb := B.bytes
  have hr := B.returns
  have hts := atoms_spec (ws := tb (.code yX3_readToken cX3_readToken 6 (some .int))) B.pre
  have hown : s.vm.findClass RX3 = some m.cls := findClass_of_methodNamed B.named
  have hlocks := B.notSynchronized
  have hS : va_S (th_A G) s.heap s.heap [] := va_S.rf
  have hl := lv_entry ([.ref h0, .ref p1, .int x2, .int x3]) (n := 6) (Nat.le_of_ble_eq_true rfl)
  rw [show entryFrame m args 6 = entryFrame m ([.ref h0, .ref p1, .int x2, .int x3] : List Value).toArray 6 from by rw [hav], lg_entry_eq]
  generalize (lg_sl ([.ref h0, .ref p1, .int x2, .int x3]) ++ List.replicate (6 - (lg_sl ([.ref h0, .ref p1, .int x2, .int x3])).length) Slot.unset).toArray = ls at hl ⊢
  have hl : lv_has ls 6 [(0, .ref h0), (1, .ref p1), (2, .int x2), (3, .int x3)] := hl
  generalize hR : (headSpec (tb (.code yX3_readToken cX3_readToken 6 (some .int))) (rm 5)).room = R
  have hR := hR.symm
  generalize hQ : MQ below (QI E D G (fun r => True)) args s 0 0 (th_A G) = QF
  have hQ := hQ.symm
  have J_69 : ∀ (nn : Nat) (H : Heap) (locs : List Loc) (ls : Array Slot) (v433 : Int32) (v434 : Int32), (Int.toNat (400 - v434.toInt) = nn) → lv_has ls 6 [(5, .int v433), (4, .int v434), (0, .ref h0), (1, .ref p1), (2, .int x2), (3, .int x3)] → ((1 : Int) ≤ v434.toInt ∧ v434.toInt ≤ 400) → ((0 : Int) ≤ x2.toInt ∧ x2.toInt ≤ 399) → ((0 : Int) ≤ x3.toInt ∧ x3.toInt ≤ 400) → th_I (okC E) D G [] H → va_S (th_A G) s.heap H locs → W p l e R s m args below meth c H locs 0 0 QF (F0 m 69 ls []) := by
    intro nn
    induction nn using Nat.strongRecOn with
    | ind nn ih_69 =>
      intro H locs ls v433 v434 hm hl k435 k436 k437 hI hS
      refine lv_iload hx hb dX3_readToken_69 (lv_at hl 1 rfl) ?_
      refine lv_iload_n hx hb dX3_readToken_71 rfl (lv_at hl 5 rfl) ?_
      refine lv_icmp_ge (tgt := 112) hx hb dX3_readToken_72 (by decide) (fun c438 => ?_) (fun c438 => ?_)
      · skip
        have k439 := iv_le (X := x3.toInt) (Y := v434.toInt) rfl rfl c438
        refine lv_aload_n hx hb dX3_readToken_112 rfl (lv_at hl 2 rfl) ?_
        refine lv_bipush (v := (-2)) hx hb dX3_readToken_113 (by decide) ?_
        refine lv_iload_n hx hb dX3_readToken_115 rfl (lv_at hl 4 rfl) ?_
        refine lv_iload hx hb dX3_readToken_116 (lv_at hl 0 rfl) ?_
        refine th_cVv (As := [.int (-2), .int x2, .int v433]) (rest := []) (n := 3) (d := 0) ⟨hx, hb, hml, hown, hts⟩ (c_X3_addToken l E D G h0 (n) hG0 (-2) x2 v433) wd_700 wd_702 wp_12 wd_5 wd_703 (by decide +kernel) ⟨by rw [hR]; exact Nat.le_of_ble_eq_true rfl, by rw [hR]; exact Nat.le_of_ble_eq_true rfl⟩ hI hN hK hS (rc_7 hI hG0 List.not_mem_nil) rfl rfl hl.1 rfl (Nat.le_of_ble_eq_true rfl) dX3_readToken_118 ⟨Nat.zero_le _, Nat.zero_le _⟩ (fun H locs hI hS => ?_)
        refine lv_goto (tgt := 133) hx hb dX3_readToken_121 (by decide) ?_
        refine lv_iload hx hb dX3_readToken_133 (lv_at hl 1 rfl) ?_
        have hpost : True := trivial
        rw [hQ]
        exact W.iret (v := v434) hx hb hr (fun t ht hW => ⟨⟨v434, (), rfl, hpost, by rw [ht]; exact hI, hN.warm hW, va_K.moved hW.alike hK⟩, hS.F ht⟩) hS.2.2 dX3_readToken_135
      · skip
        have k441 := iv_nle (X := x3.toInt) (Y := v434.toInt) rfl rfl c438
        refine lv_aload_n hx hb dX3_readToken_75 rfl (lv_at hl 3 rfl) ?_
        refine lv_iload hx hb dX3_readToken_76 (lv_at hl 1 rfl) ?_
        obtain ⟨_, hA442⟩ := op_0 hI hp1 List.not_mem_nil
        refine th_iald hx hb hK hA442 0 rfl (iv_in (X := v434.toInt) rfl (by omega) (by omega)) dX3_readToken_78 (fun v443 _ => ?_)
        refine th_cSs (As := [.int v443]) (rest := []) (n := 1) (d := 0) ⟨hx, hb, hml, hown, hts⟩ (c_X3_isDigit l H v443) wd_704 wd_705 wd_5 wd_706 (by decide +kernel) ⟨by rw [hR]; exact Nat.le_of_ble_eq_true rfl, by rw [hR]; exact Nat.le_of_ble_eq_true rfl⟩ hN hS rfl hl.1 rfl (Nat.le_of_ble_eq_true rfl) dX3_readToken_79 ⟨Nat.zero_le _, Nat.zero_le _⟩ (fun r444 locs hp hS => ?_)
        rcases hp with ⟨rfl, hp⟩ | ⟨rfl, hp⟩
        · skip
          try simp only [rg, not_and, Int.not_le] at hp
          have hp445 := hp
          refine lv_if_eq (tgt := 112) hx hb dX3_readToken_82 (by decide) (fun c => absurd c (by decide)) (fun _ => ?_)
          refine lv_iload hx hb dX3_readToken_85 (lv_at hl 0 rfl) ?_
          refine lv_bipush (v := 10) hx hb dX3_readToken_87 (by decide) ?_
          refine lv_imul hx hb dX3_readToken_89 ?_
          refine lv_topi (fun v446 e447 => ?_)
          try have tv446 : v446.toInt = v433.toInt * (10) := iv_mul rfl (by decide) e447 (by omega) (by omega)
          refine lv_aload_n hx hb dX3_readToken_90 rfl (lv_at hl 3 rfl) ?_
          refine lv_iload hx hb dX3_readToken_91 (lv_at hl 1 rfl) ?_
          obtain ⟨_, hA448⟩ := op_0 hI hp1 List.not_mem_nil
          refine th_iald hx hb hK hA448 0 rfl (iv_in (X := v434.toInt) rfl (by omega) (by omega)) dX3_readToken_93 (fun v449 _ => ?_)
          refine lv_iadd hx hb dX3_readToken_94 ?_
          refine lv_topi (fun v450 e451 => ?_)
          try have tv450 : v450.toInt = v446.toInt + v449.toInt := iv_add rfl rfl e451 (by omega) (by omega)
          refine lv_bipush (v := 48) hx hb dX3_readToken_95 (by decide) ?_
          refine lv_isub hx hb dX3_readToken_97 ?_
          refine lv_topi (fun v452 e453 => ?_)
          try have tv452 : v452.toInt = v450.toInt - (48) := iv_sub rfl (by decide) e453 (by omega) (by omega)
          refine lv_sipush (v := 1001) hx hb dX3_readToken_98 (by decide) ?_
          refine va_mmin hx hb (hml.trans hl.1.symm) hown (hts _ (tb_c wd_647)) (hts _ (tb_c wd_583)) (hts _ (tb_c wd_4)) (hts _ (tb_c wd_584)) (by rw [hR]; exact Nat.le_of_ble_eq_true rfl) (by rw [hR]; exact Nat.le_of_ble_eq_true rfl) (Nat.zero_le _) (Nat.zero_le _) dX3_readToken_101 ?_
          refine lv_topi (fun v454 e455 => ?_)
          have tv454 := iv_min e455
          rw [show (1001 : Int32).toInt = 1001 from by decide] at tv454
          refine lv_istore (lv' := [(5, .int v454), (4, .int v434), (0, .ref h0), (1, .ref p1), (2, .int x2), (3, .int x3)]) hx hb dX3_readToken_104 hl (by decide) rfl (fun ls hl => ?_)
          obtain ⟨v456, e457⟩ : ∃ y : Int32, y = v434 + (1) := ⟨_, rfl⟩
          have tv456 : v456.toInt = v434.toInt + (1) := iv_add rfl (by decide) e457 (by omega) (by omega)
          refine lv_iinc (v := v456) (lv' := [(4, .int v456), (5, .int v454), (0, .ref h0), (1, .ref p1), (2, .int x2), (3, .int x3)]) hx hb dX3_readToken_106 hl (k := 1) rfl (by rw [e457]; rfl) (by decide) rfl (fun ls hl => ?_)
          refine lv_goto (tgt := 69) hx hb dX3_readToken_109 (by decide) ?_
          exact ih_69 _ (by omega) H locs ls v454 v456 rfl (lv_sub hl [1, 0, 2, 3, 4, 5] rfl) ⟨by omega, by omega⟩ ⟨by omega, by omega⟩ ⟨by omega, by omega⟩ hI hS
        · skip
          try simp only [rg, not_and, Int.not_le] at hp
          have hp458 := hp
          refine lv_if_eq (tgt := 112) hx hb dX3_readToken_82 (by decide) (fun _ => ?_) (fun c => absurd c (by decide))
          refine lv_aload_n hx hb dX3_readToken_112 rfl (lv_at hl 2 rfl) ?_
          refine lv_bipush (v := (-2)) hx hb dX3_readToken_113 (by decide) ?_
          refine lv_iload_n hx hb dX3_readToken_115 rfl (lv_at hl 4 rfl) ?_
          refine lv_iload hx hb dX3_readToken_116 (lv_at hl 0 rfl) ?_
          refine th_cVv (As := [.int (-2), .int x2, .int v433]) (rest := []) (n := 3) (d := 0) ⟨hx, hb, hml, hown, hts⟩ (c_X3_addToken l E D G h0 (n) hG0 (-2) x2 v433) wd_700 wd_702 wp_12 wd_5 wd_703 (by decide +kernel) ⟨by rw [hR]; exact Nat.le_of_ble_eq_true rfl, by rw [hR]; exact Nat.le_of_ble_eq_true rfl⟩ hI hN hK hS (rc_7 hI hG0 List.not_mem_nil) rfl rfl hl.1 rfl (Nat.le_of_ble_eq_true rfl) dX3_readToken_118 ⟨Nat.zero_le _, Nat.zero_le _⟩ (fun H locs hI hS => ?_)
          refine lv_goto (tgt := 133) hx hb dX3_readToken_121 (by decide) ?_
          refine lv_iload hx hb dX3_readToken_133 (lv_at hl 1 rfl) ?_
          have hpost : True := trivial
          rw [hQ]
          exact W.iret (v := v434) hx hb hr (fun t ht hW => ⟨⟨v434, (), rfl, hpost, by rw [ht]; exact hI, hN.warm hW, va_K.moved hW.alike hK⟩, hS.F ht⟩) hS.2.2 dX3_readToken_135
  have J_22 : ∀ (nn : Nat) (H : Heap) (locs : List Loc) (ls : Array Slot) (v460 : Int32) (v461 : Int32), (Int.toNat (400 - v461.toInt) = nn) → lv_has ls 6 [(5, .int v460), (4, .int v461), (0, .ref h0), (1, .ref p1), (2, .int x2), (3, .int x3)] → ((1 : Int) ≤ v461.toInt ∧ v461.toInt ≤ 400) → ((0 : Int) ≤ x2.toInt ∧ x2.toInt ≤ 399) → ((0 : Int) ≤ x3.toInt ∧ x3.toInt ≤ 400) → th_I (okC E) D G [] H → va_S (th_A G) s.heap H locs → W p l e R s m args below meth c H locs 0 0 QF (F0 m 22 ls []) := by
    intro nn
    induction nn using Nat.strongRecOn with
    | ind nn ih_22 =>
      intro H locs ls v460 v461 hm hl k462 k463 k464 hI hS
      refine lv_iload hx hb dX3_readToken_22 (lv_at hl 1 rfl) ?_
      refine lv_iload_n hx hb dX3_readToken_24 rfl (lv_at hl 5 rfl) ?_
      refine lv_icmp_ge (tgt := 44) hx hb dX3_readToken_25 (by decide) (fun c465 => ?_) (fun c465 => ?_)
      · skip
        have k466 := iv_le (X := x3.toInt) (Y := v461.toInt) rfl rfl c465
        refine lv_aload_n hx hb dX3_readToken_44 rfl (lv_at hl 2 rfl) ?_
        refine lv_aload_n hx hb dX3_readToken_45 rfl (lv_at hl 3 rfl) ?_
        refine lv_iload_n hx hb dX3_readToken_46 rfl (lv_at hl 4 rfl) ?_
        refine lv_iload hx hb dX3_readToken_47 (lv_at hl 1 rfl) ?_
        refine st_S (As := [.ref p1, .int x2, .int v461]) (rest := [.ref h0]) (n := 3) (d := 4) ⟨hx, hb, hml, hown, hts⟩ (c_X3_findWord l E D G adK adV H p1 hp1 x2 v461 ⟨by omega, by omega⟩ ⟨by omega, by omega⟩) wd_656 wd_657 wd_5 wd_658 (by decide +kernel) ⟨by rw [hR]; exact Nat.le_of_ble_eq_true rfl, by rw [hR]; exact Nat.le_of_ble_eq_true rfl⟩ hI hN hK hWS hS rfl hl.1 rfl (Nat.le_of_ble_eq_true rfl) dX3_readToken_49 ⟨Nat.zero_le _, Nat.zero_le _⟩ (fun r467 locs hp hS => ?_)
        refine lv_iload_n hx hb dX3_readToken_52 rfl (lv_at hl 4 rfl) ?_
        refine lv_iconst (v := 0) hx hb dX3_readToken_53 (by decide) ?_
        refine th_cVv (As := [.int r467, .int x2, .int 0]) (rest := []) (n := 3) (d := 0) ⟨hx, hb, hml, hown, hts⟩ (c_X3_addToken l E D G h0 (n) hG0 r467 x2 0) wd_700 wd_702 wp_12 wd_5 wd_703 (by decide +kernel) ⟨by rw [hR]; exact Nat.le_of_ble_eq_true rfl, by rw [hR]; exact Nat.le_of_ble_eq_true rfl⟩ hI hN hK hS (rc_7 hI hG0 List.not_mem_nil) rfl rfl hl.1 rfl (Nat.le_of_ble_eq_true rfl) dX3_readToken_54 ⟨Nat.zero_le _, Nat.zero_le _⟩ (fun H locs hI hS => ?_)
        refine lv_goto (tgt := 133) hx hb dX3_readToken_57 (by decide) ?_
        refine lv_iload hx hb dX3_readToken_133 (lv_at hl 1 rfl) ?_
        have hpost : True := trivial
        rw [hQ]
        exact W.iret (v := v461) hx hb hr (fun t ht hW => ⟨⟨v461, (), rfl, hpost, by rw [ht]; exact hI, hN.warm hW, va_K.moved hW.alike hK⟩, hS.F ht⟩) hS.2.2 dX3_readToken_135
      · skip
        have k469 := iv_nle (X := x3.toInt) (Y := v461.toInt) rfl rfl c465
        refine lv_aload_n hx hb dX3_readToken_28 rfl (lv_at hl 3 rfl) ?_
        refine lv_iload hx hb dX3_readToken_29 (lv_at hl 1 rfl) ?_
        obtain ⟨_, hA470⟩ := op_0 hI hp1 List.not_mem_nil
        refine th_iald hx hb hK hA470 0 rfl (iv_in (X := v461.toInt) rfl (by omega) (by omega)) dX3_readToken_31 (fun v471 _ => ?_)
        refine th_cSs (As := [.int v471]) (rest := []) (n := 1) (d := 0) ⟨hx, hb, hml, hown, hts⟩ (c_X3_isLetter l H v471) wd_653 wd_654 wd_5 wd_655 (by decide +kernel) ⟨by rw [hR]; exact Nat.le_of_ble_eq_true rfl, by rw [hR]; exact Nat.le_of_ble_eq_true rfl⟩ hN hS rfl hl.1 rfl (Nat.le_of_ble_eq_true rfl) dX3_readToken_32 ⟨Nat.zero_le _, Nat.zero_le _⟩ (fun r472 locs hp hS => ?_)
        rcases hp with ⟨rfl, hp⟩ | ⟨rfl, hp⟩
        · skip
          try simp only [rg, not_and, Int.not_le] at hp
          have hp473 := hp
          refine lv_if_eq (tgt := 44) hx hb dX3_readToken_35 (by decide) (fun c => absurd c (by decide)) (fun _ => ?_)
          obtain ⟨v474, e475⟩ : ∃ y : Int32, y = v461 + (1) := ⟨_, rfl⟩
          have tv474 : v474.toInt = v461.toInt + (1) := iv_add rfl (by decide) e475 (by omega) (by omega)
          refine lv_iinc (v := v474) (lv' := [(4, .int v474), (5, .int v460), (0, .ref h0), (1, .ref p1), (2, .int x2), (3, .int x3)]) hx hb dX3_readToken_38 hl (k := 1) rfl (by rw [e475]; rfl) (by decide) rfl (fun ls hl => ?_)
          refine lv_goto (tgt := 22) hx hb dX3_readToken_41 (by decide) ?_
          exact ih_22 _ (by omega) H locs ls v460 v474 rfl (lv_sub hl [1, 0, 2, 3, 4, 5] rfl) ⟨by omega, by omega⟩ ⟨by omega, by omega⟩ ⟨by omega, by omega⟩ hI hS
        · skip
          try simp only [rg, not_and, Int.not_le] at hp
          have hp476 := hp
          refine lv_if_eq (tgt := 44) hx hb dX3_readToken_35 (by decide) (fun _ => ?_) (fun c => absurd c (by decide))
          refine lv_aload_n hx hb dX3_readToken_44 rfl (lv_at hl 2 rfl) ?_
          refine lv_aload_n hx hb dX3_readToken_45 rfl (lv_at hl 3 rfl) ?_
          refine lv_iload_n hx hb dX3_readToken_46 rfl (lv_at hl 4 rfl) ?_
          refine lv_iload hx hb dX3_readToken_47 (lv_at hl 1 rfl) ?_
          refine st_S (As := [.ref p1, .int x2, .int v461]) (rest := [.ref h0]) (n := 3) (d := 4) ⟨hx, hb, hml, hown, hts⟩ (c_X3_findWord l E D G adK adV H p1 hp1 x2 v461 ⟨by omega, by omega⟩ ⟨by omega, by omega⟩) wd_656 wd_657 wd_5 wd_658 (by decide +kernel) ⟨by rw [hR]; exact Nat.le_of_ble_eq_true rfl, by rw [hR]; exact Nat.le_of_ble_eq_true rfl⟩ hI hN hK hWS hS rfl hl.1 rfl (Nat.le_of_ble_eq_true rfl) dX3_readToken_49 ⟨Nat.zero_le _, Nat.zero_le _⟩ (fun r477 locs hp hS => ?_)
          refine lv_iload_n hx hb dX3_readToken_52 rfl (lv_at hl 4 rfl) ?_
          refine lv_iconst (v := 0) hx hb dX3_readToken_53 (by decide) ?_
          refine th_cVv (As := [.int r477, .int x2, .int 0]) (rest := []) (n := 3) (d := 0) ⟨hx, hb, hml, hown, hts⟩ (c_X3_addToken l E D G h0 (n) hG0 r477 x2 0) wd_700 wd_702 wp_12 wd_5 wd_703 (by decide +kernel) ⟨by rw [hR]; exact Nat.le_of_ble_eq_true rfl, by rw [hR]; exact Nat.le_of_ble_eq_true rfl⟩ hI hN hK hS (rc_7 hI hG0 List.not_mem_nil) rfl rfl hl.1 rfl (Nat.le_of_ble_eq_true rfl) dX3_readToken_54 ⟨Nat.zero_le _, Nat.zero_le _⟩ (fun H locs hI hS => ?_)
          refine lv_goto (tgt := 133) hx hb dX3_readToken_57 (by decide) ?_
          refine lv_iload hx hb dX3_readToken_133 (lv_at hl 1 rfl) ?_
          have hpost : True := trivial
          rw [hQ]
          exact W.iret (v := v461) hx hb hr (fun t ht hW => ⟨⟨v461, (), rfl, hpost, by rw [ht]; exact hI, hN.warm hW, va_K.moved hW.alike hK⟩, hS.F ht⟩) hS.2.2 dX3_readToken_135
  refine lv_iload_n hx hb dX3_readToken_0 rfl (lv_at hl 2 rfl) ?_
  refine lv_iconst (v := 1) hx hb dX3_readToken_1 (by decide) ?_
  refine lv_iadd hx hb dX3_readToken_2 ?_
  refine lv_topi (fun v479 e480 => ?_)
  have tv479 : v479.toInt = x2.toInt + (1) := iv_add rfl (by decide) e480 (by omega) (by omega)
  refine lv_istore (lv' := [(4, .int v479), (0, .ref h0), (1, .ref p1), (2, .int x2), (3, .int x3)]) hx hb dX3_readToken_3 hl (by decide) rfl (fun ls hl => ?_)
  refine lv_aload_n hx hb dX3_readToken_5 rfl (lv_at hl 2 rfl) ?_
  refine lv_iload_n hx hb dX3_readToken_6 rfl (lv_at hl 3 rfl) ?_
  obtain ⟨_, hA481⟩ := op_0 hI hp1 List.not_mem_nil
  refine th_iald hx hb hK hA481 0 rfl (iv_in (X := x2.toInt) rfl (by omega) (by omega)) dX3_readToken_7 (fun v482 _ => ?_)
  refine lv_bipush (v := 48) hx hb dX3_readToken_8 (by decide) ?_
  refine lv_isub hx hb dX3_readToken_10 ?_
  refine lv_topi (fun v483 e484 => ?_)
  try have tv483 : v483.toInt = v482.toInt - (48) := iv_sub rfl (by decide) e484 (by omega) (by omega)
  refine lv_istore (lv' := [(5, .int v483), (4, .int v479), (0, .ref h0), (1, .ref p1), (2, .int x2), (3, .int x3)]) hx hb dX3_readToken_11 hl (by decide) rfl (fun ls hl => ?_)
  refine lv_aload_n hx hb dX3_readToken_13 rfl (lv_at hl 3 rfl) ?_
  refine lv_iload_n hx hb dX3_readToken_14 rfl (lv_at hl 4 rfl) ?_
  obtain ⟨_, hA485⟩ := op_0 hI hp1 List.not_mem_nil
  refine th_iald hx hb hK hA485 0 rfl (iv_in (X := x2.toInt) rfl (by omega) (by omega)) dX3_readToken_15 (fun v486 _ => ?_)
  refine th_cSs (As := [.int v486]) (rest := []) (n := 1) (d := 0) ⟨hx, hb, hml, hown, hts⟩ (c_X3_isLetter l s.heap v486) wd_653 wd_654 wd_5 wd_655 (by decide +kernel) ⟨by rw [hR]; exact Nat.le_of_ble_eq_true rfl, by rw [hR]; exact Nat.le_of_ble_eq_true rfl⟩ hN hS rfl hl.1 rfl (Nat.le_of_ble_eq_true rfl) dX3_readToken_16 ⟨Nat.zero_le _, Nat.zero_le _⟩ (fun r487 locs hp hS => ?_)
  rcases hp with ⟨rfl, hp⟩ | ⟨rfl, hp⟩
  · skip
    try simp only [rg, not_and, Int.not_le] at hp
    have hp488 := hp
    refine lv_if_eq (tgt := 60) hx hb dX3_readToken_19 (by decide) (fun c => absurd c (by decide)) (fun _ => ?_)
    exact J_22 _ s.heap locs ls v483 v479 rfl (lv_sub hl [0, 1, 2, 3, 4, 5] rfl) ⟨by omega, by omega⟩ ⟨by omega, by omega⟩ ⟨by omega, by omega⟩ hI hS
  · skip
    try simp only [rg, not_and, Int.not_le] at hp
    have hp489 := hp
    refine lv_if_eq (tgt := 60) hx hb dX3_readToken_19 (by decide) (fun _ => ?_) (fun c => absurd c (by decide))
    refine lv_aload_n hx hb dX3_readToken_60 rfl (lv_at hl 3 rfl) ?_
    refine lv_iload_n hx hb dX3_readToken_61 rfl (lv_at hl 4 rfl) ?_
    obtain ⟨_, hA490⟩ := op_0 hI hp1 List.not_mem_nil
    refine th_iald hx hb hK hA490 0 rfl (iv_in (X := x2.toInt) rfl (by omega) (by omega)) dX3_readToken_62 (fun v491 _ => ?_)
    refine th_cSs (As := [.int v491]) (rest := []) (n := 1) (d := 0) ⟨hx, hb, hml, hown, hts⟩ (c_X3_isDigit l s.heap v491) wd_704 wd_705 wd_5 wd_706 (by decide +kernel) ⟨by rw [hR]; exact Nat.le_of_ble_eq_true rfl, by rw [hR]; exact Nat.le_of_ble_eq_true rfl⟩ hN hS rfl hl.1 rfl (Nat.le_of_ble_eq_true rfl) dX3_readToken_63 ⟨Nat.zero_le _, Nat.zero_le _⟩ (fun r492 locs hp hS => ?_)
    rcases hp with ⟨rfl, hp⟩ | ⟨rfl, hp⟩
    · skip
      try simp only [rg, not_and, Int.not_le] at hp
      have hp493 := hp
      refine lv_if_eq (tgt := 124) hx hb dX3_readToken_66 (by decide) (fun c => absurd c (by decide)) (fun _ => ?_)
      exact J_69 _ s.heap locs ls v483 v479 rfl (lv_sub hl [0, 1, 2, 3, 4, 5] rfl) ⟨by omega, by omega⟩ ⟨by omega, by omega⟩ ⟨by omega, by omega⟩ hI hS
    · skip
      try simp only [rg, not_and, Int.not_le] at hp
      have hp494 := hp
      refine lv_if_eq (tgt := 124) hx hb dX3_readToken_66 (by decide) (fun _ => ?_) (fun c => absurd c (by decide))
      refine lv_aload_n hx hb dX3_readToken_124 rfl (lv_at hl 2 rfl) ?_
      refine lv_aload_n hx hb dX3_readToken_125 rfl (lv_at hl 3 rfl) ?_
      refine lv_iload_n hx hb dX3_readToken_126 rfl (lv_at hl 4 rfl) ?_
      obtain ⟨_, hA495⟩ := op_0 hI hp1 List.not_mem_nil
      refine th_iald hx hb hK hA495 0 rfl (iv_in (X := x2.toInt) rfl (by omega) (by omega)) dX3_readToken_127 (fun v496 _ => ?_)
      refine lv_iload_n hx hb dX3_readToken_128 rfl (lv_at hl 4 rfl) ?_
      refine lv_iconst (v := 0) hx hb dX3_readToken_129 (by decide) ?_
      refine th_cVv (As := [.int v496, .int x2, .int 0]) (rest := []) (n := 3) (d := 0) ⟨hx, hb, hml, hown, hts⟩ (c_X3_addToken l E D G h0 (n) hG0 v496 x2 0) wd_700 wd_702 wp_12 wd_5 wd_703 (by decide +kernel) ⟨by rw [hR]; exact Nat.le_of_ble_eq_true rfl, by rw [hR]; exact Nat.le_of_ble_eq_true rfl⟩ hI hN hK hS (rc_7 hI hG0 List.not_mem_nil) rfl rfl hl.1 rfl (Nat.le_of_ble_eq_true rfl) dX3_readToken_130 ⟨Nat.zero_le _, Nat.zero_le _⟩ (fun H locs hI hS => ?_)
      refine lv_iload hx hb dX3_readToken_133 (lv_at hl 1 rfl) ?_
      have hpost : True := trivial
      rw [hQ]
      exact W.iret (v := v479) hx hb hr (fun t ht hW => ⟨⟨v479, (), rfl, hpost, by rw [ht]; exact hI, hN.warm hW, va_K.moved hW.alike hK⟩, hS.F ht⟩) hS.2.2 dX3_readToken_135
