theorem wd_oinit : Cond.code objectInit ⟨#[0xb1]⟩ 1 none ∈ TB := tw 29 (by decide +kernel) (by decide +kernel)
theorem wn_125 : (Cond.methodLinkNest RX11 (32 : Nat) yX3_init "NineRiver") ∈ lw_tbl := List.mem_append_right _ (List.mem_of_getElem? (i := 125) (by decide +kernel))
theorem wn_174 : (Cond.methodLinkNest RX7 (11 : Nat) yX0_init "NineRiver") ∈ lw_tbl := List.mem_append_right _ (List.mem_of_getElem? (i := 174) (by decide +kernel))
theorem wd_123 : (Cond.classLink RX11 (30 : Nat) "NineRiver$Reader") ∈ TB := tw 123 (by decide +kernel) (by decide +kernel)
theorem wd_124 : (Cond.instantiable RX3 (12 : Nat)) ∈ TB := tw 124 (by decide +kernel) (by decide +kernel)
theorem wd_126 : (Jvm.Cond.instanceMethod yX3_init) ∈ TB := tw 126 (by decide +kernel) (by decide +kernel)
theorem wd_127 : (Cond.code yX3_init cX3_init 1 (Option.none : Option Jvm.ClassFile.FieldType)) ∈ TB := tw 127 (by decide +kernel) (by decide +kernel)
theorem wd_128 : (Cond.methodLink RX3 (5 : Nat) objectInit) ∈ TB := tw 128 (by decide +kernel) (by decide +kernel)
theorem wd_166 : (Cond.classLink RX11 (37 : Nat) "NineRiver$Stream") ∈ TB := tw 166 (by decide +kernel) (by decide +kernel)
theorem wd_167 : (Cond.instantiable RX7 (7 : Nat)) ∈ TB := tw 167 (by decide +kernel) (by decide +kernel)
theorem wd_168 : (Cond.methodLink RX11 (39 : Nat) yX7_init) ∈ TB := tw 168 (by decide +kernel) (by decide +kernel)
theorem wd_169 : (Jvm.Cond.instanceMethod yX7_init) ∈ TB := tw 169 (by decide +kernel) (by decide +kernel)
theorem wd_170 : (Cond.code yX7_init cX7_init 2 (Option.none : Option Jvm.ClassFile.FieldType)) ∈ TB := tw 170 (by decide +kernel) (by decide +kernel)
theorem wd_171 : (Cond.methodLink RX7 (3 : Nat) objectInit) ∈ TB := tw 171 (by decide +kernel) (by decide +kernel)
theorem wd_172 : (Cond.classLink RX7 (9 : Nat) "NineRiver$Asker") ∈ TB := tw 172 (by decide +kernel) (by decide +kernel)
theorem wd_173 : (Cond.instantiable RX0 (3 : Nat)) ∈ TB := tw 173 (by decide +kernel) (by decide +kernel)
theorem wd_175 : (Jvm.Cond.instanceMethod yX0_init) ∈ TB := tw 175 (by decide +kernel) (by decide +kernel)
theorem wd_176 : (Cond.code yX0_init cX0_init 1 (Option.none : Option Jvm.ClassFile.FieldType)) ∈ TB := tw 176 (by decide +kernel) (by decide +kernel)
theorem wd_177 : (Cond.methodLink RX0 (3 : Nat) objectInit) ∈ TB := tw 177 (by decide +kernel) (by decide +kernel)
theorem wd_188 : (Jvm.Cond.arrayClass Jvm.ClassFile.FieldType.long) ∈ TB := tw 188 (by decide +kernel) (by decide +kernel)
theorem wd_211 : (Cond.classLink RX11 (46 : Nat) "NineRiver$Travel") ∈ TB := tw 211 (by decide +kernel) (by decide +kernel)
theorem wd_212 : (Cond.instantiable RX9 (4 : Nat)) ∈ TB := tw 212 (by decide +kernel) (by decide +kernel)
theorem wd_213 : (Cond.methodLink RX11 (48 : Nat) yX9_init) ∈ TB := tw 213 (by decide +kernel) (by decide +kernel)
theorem wd_214 : (Jvm.Cond.instanceMethod yX9_init) ∈ TB := tw 214 (by decide +kernel) (by decide +kernel)
theorem wd_215 : (Cond.code yX9_init cX9_init 3 (Option.none : Option Jvm.ClassFile.FieldType)) ∈ TB := tw 215 (by decide +kernel) (by decide +kernel)
theorem wd_216 : (Cond.methodLink RX9 (3 : Nat) objectInit) ∈ TB := tw 216 (by decide +kernel) (by decide +kernel)
theorem wd_230 : (Cond.classLink RX11 (55 : Nat) "NineRiver$Dyes") ∈ TB := tw 230 (by decide +kernel) (by decide +kernel)
theorem wd_231 : (Cond.instantiable RX1 (11 : Nat)) ∈ TB := tw 231 (by decide +kernel) (by decide +kernel)
theorem wd_232 : (Cond.methodLink RX11 (57 : Nat) yX1_init) ∈ TB := tw 232 (by decide +kernel) (by decide +kernel)
theorem wd_233 : (Jvm.Cond.instanceMethod yX1_init) ∈ TB := tw 233 (by decide +kernel) (by decide +kernel)
theorem wd_234 : (Cond.code yX1_init cX1_init 4 (Option.none : Option Jvm.ClassFile.FieldType)) ∈ TB := tw 234 (by decide +kernel) (by decide +kernel)
theorem wd_235 : (Cond.methodLink RX1 (3 : Nat) objectInit) ∈ TB := tw 235 (by decide +kernel) (by decide +kernel)
theorem wd_27 : (Cond.methodLink RX11 (3 : Nat) objectInit) ∈ TB := tw 27 (by decide +kernel) (by decide +kernel)
theorem wd_270 : (Cond.classLink RX11 (64 : Nat) "NineRiver$Sleuth") ∈ TB := tw 270 (by decide +kernel) (by decide +kernel)
theorem wd_271 : (Cond.instantiable RX5 (6 : Nat)) ∈ TB := tw 271 (by decide +kernel) (by decide +kernel)
theorem wd_272 : (Cond.methodLink RX11 (66 : Nat) yX5_init) ∈ TB := tw 272 (by decide +kernel) (by decide +kernel)
theorem wd_273 : (Jvm.Cond.instanceMethod yX5_init) ∈ TB := tw 273 (by decide +kernel) (by decide +kernel)
theorem wd_274 : (Cond.code yX5_init cX5_init 3 (Option.none : Option Jvm.ClassFile.FieldType)) ∈ TB := tw 274 (by decide +kernel) (by decide +kernel)
theorem wd_275 : (Cond.methodLink RX5 (5 : Nat) objectInit) ∈ TB := tw 275 (by decide +kernel) (by decide +kernel)
theorem wd_28 : (Jvm.Cond.instanceMethod objectInit) ∈ TB := tw 28 (by decide +kernel) (by decide +kernel)
theorem wd_295 : (Cond.classLink RX11 (73 : Nat) "NineRiver$Thrower") ∈ TB := tw 295 (by decide +kernel) (by decide +kernel)
theorem wd_296 : (Cond.instantiable RX8 (6 : Nat)) ∈ TB := tw 296 (by decide +kernel) (by decide +kernel)
theorem wd_297 : (Cond.methodLink RX11 (75 : Nat) yX8_init) ∈ TB := tw 297 (by decide +kernel) (by decide +kernel)
theorem wd_298 : (Jvm.Cond.instanceMethod yX8_init) ∈ TB := tw 298 (by decide +kernel) (by decide +kernel)
theorem wd_299 : (Cond.code yX8_init cX8_init 2 (Option.none : Option Jvm.ClassFile.FieldType)) ∈ TB := tw 299 (by decide +kernel) (by decide +kernel)
theorem wd_30 : (Cond.classLink RX11 (9 : Nat) "NineRiver$State") ∈ TB := tw 30 (by decide +kernel) (by decide +kernel)
theorem wd_300 : (Cond.methodLink RX8 (3 : Nat) objectInit) ∈ TB := tw 300 (by decide +kernel) (by decide +kernel)
theorem wd_31 : (Cond.instantiable RX6 (14 : Nat)) ∈ TB := tw 31 (by decide +kernel) (by decide +kernel)
theorem wd_32 : (Cond.methodLink RX11 (11 : Nat) yX6_init) ∈ TB := tw 32 (by decide +kernel) (by decide +kernel)
theorem wd_320 : (Cond.classLink RX11 (82 : Nat) "NineRiver$Tuner") ∈ TB := tw 320 (by decide +kernel) (by decide +kernel)
theorem wd_321 : (Cond.instantiable RX10 (6 : Nat)) ∈ TB := tw 321 (by decide +kernel) (by decide +kernel)
theorem wd_322 : (Cond.methodLink RX11 (84 : Nat) yX10_init) ∈ TB := tw 322 (by decide +kernel) (by decide +kernel)
theorem wd_323 : (Jvm.Cond.instanceMethod yX10_init) ∈ TB := tw 323 (by decide +kernel) (by decide +kernel)
theorem wd_324 : (Cond.code yX10_init cX10_init 4 (Option.none : Option Jvm.ClassFile.FieldType)) ∈ TB := tw 324 (by decide +kernel) (by decide +kernel)
theorem wd_325 : (Cond.methodLink RX10 (3 : Nat) objectInit) ∈ TB := tw 325 (by decide +kernel) (by decide +kernel)
theorem wd_33 : (Jvm.Cond.instanceMethod yX6_init) ∈ TB := tw 33 (by decide +kernel) (by decide +kernel)
theorem wd_34 : (Cond.code yX6_init cX6_init 1 (Option.none : Option Jvm.ClassFile.FieldType)) ∈ TB := tw 34 (by decide +kernel) (by decide +kernel)
theorem wd_35 : (Cond.methodLink RX6 (3 : Nat) objectInit) ∈ TB := tw 35 (by decide +kernel) (by decide +kernel)
theorem wd_350 : (Cond.fieldLink RX11 (33 : Nat) "NineRiver" "reader" "LNineRiver$Reader;") ∈ TB := tw 350 (by decide +kernel) (by decide +kernel)
theorem wd_36 : (Cond.classLink RX6 (18 : Nat) "NineRiver$Rows") ∈ TB := tw 36 (by decide +kernel) (by decide +kernel)
theorem wd_37 : (Cond.instantiable RX4 (3 : Nat)) ∈ TB := tw 37 (by decide +kernel) (by decide +kernel)
theorem wd_38 : (Cond.methodLink RX6 (20 : Nat) yX4_init) ∈ TB := tw 38 (by decide +kernel) (by decide +kernel)
theorem wd_39 : (Jvm.Cond.instanceMethod yX4_init) ∈ TB := tw 39 (by decide +kernel) (by decide +kernel)
theorem wd_40 : (Cond.code yX4_init cX4_init 2 (Option.none : Option Jvm.ClassFile.FieldType)) ∈ TB := tw 40 (by decide +kernel) (by decide +kernel)
theorem wd_41 : (Cond.methodLink RX4 (3 : Nat) objectInit) ∈ TB := tw 41 (by decide +kernel) (by decide +kernel)
theorem wd_42 : (Cond.methodLink RX4 (15 : Nat) Lib.Math.max.name) ∈ TB := tw 42 (by decide +kernel) (by decide +kernel)
theorem wd_55 : (Jvm.Cond.arrayClass Jvm.ClassFile.FieldType.int) ∈ TB := tw 55 (by decide +kernel) (by decide +kernel)
theorem wd_56 : (Cond.classLink RX6 (45 : Nat) "NineRiver$Law") ∈ TB := tw 56 (by decide +kernel) (by decide +kernel)
theorem dX4_init_0g : (decode cX4_init 0 = .ok (.aload_n 0, 1)) ∧ (decode cX4_init 1 = .ok (.invokespecial 3, 3)) ∧ (decode cX4_init 4 = .ok (.aload_n 0, 1)) ∧ (decode cX4_init 5 = .ok (.iconst 0, 1)) ∧ (decode cX4_init 6 = .ok (.putfield 9, 3)) ∧ (decode cX4_init 9 = .ok (.aload_n 0, 1)) ∧ (decode cX4_init 10 = .ok (.iload_n 1, 1)) ∧ (decode cX4_init 11 = .ok (.iconst 0, 1)) ∧ (decode cX4_init 12 = .ok (.invokestatic 15, 3)) ∧ (decode cX4_init 15 = .ok (.putfield 21, 3)) := by decide +kernel
theorem dX4_init_0 : decode cX4_init 0 = .ok (.aload_n 0, 1) := dX4_init_0g.1
theorem dX4_init_1 : decode cX4_init 1 = .ok (.invokespecial 3, 3) := dX4_init_0g.2.1
theorem dX4_init_4 : decode cX4_init 4 = .ok (.aload_n 0, 1) := dX4_init_0g.2.2.1
theorem dX4_init_5 : decode cX4_init 5 = .ok (.iconst 0, 1) := dX4_init_0g.2.2.2.1
theorem dX4_init_6 : decode cX4_init 6 = .ok (.putfield 9, 3) := dX4_init_0g.2.2.2.2.1
theorem dX4_init_9 : decode cX4_init 9 = .ok (.aload_n 0, 1) := dX4_init_0g.2.2.2.2.2.1
theorem dX4_init_10 : decode cX4_init 10 = .ok (.iload_n 1, 1) := dX4_init_0g.2.2.2.2.2.2.1
theorem dX4_init_11 : decode cX4_init 11 = .ok (.iconst 0, 1) := dX4_init_0g.2.2.2.2.2.2.2.1
theorem dX4_init_12 : decode cX4_init 12 = .ok (.invokestatic 15, 3) := dX4_init_0g.2.2.2.2.2.2.2.2.1
theorem dX4_init_15 : decode cX4_init 15 = .ok (.putfield 21, 3) := dX4_init_0g.2.2.2.2.2.2.2.2.2
theorem dX4_init_18g : (decode cX4_init 18 = .ok (.aload_n 0, 1)) ∧ (decode cX4_init 19 = .ok (.aload_n 0, 1)) ∧ (decode cX4_init 20 = .ok (.getfield 21, 3)) ∧ (decode cX4_init 23 = .ok (.iconst 4, 1)) ∧ (decode cX4_init 24 = .ok (.imul, 1)) ∧ (decode cX4_init 25 = .ok (.newarray .int, 2)) ∧ (decode cX4_init 27 = .ok (.putfield 24, 3)) ∧ (decode cX4_init 30 = .ok (.return_, 1)) := by decide +kernel
theorem dX4_init_18 : decode cX4_init 18 = .ok (.aload_n 0, 1) := dX4_init_18g.1
theorem dX4_init_19 : decode cX4_init 19 = .ok (.aload_n 0, 1) := dX4_init_18g.2.1
theorem dX4_init_20 : decode cX4_init 20 = .ok (.getfield 21, 3) := dX4_init_18g.2.2.1
theorem dX4_init_23 : decode cX4_init 23 = .ok (.iconst 4, 1) := dX4_init_18g.2.2.2.1
theorem dX4_init_24 : decode cX4_init 24 = .ok (.imul, 1) := dX4_init_18g.2.2.2.2.1
theorem dX4_init_25 : decode cX4_init 25 = .ok (.newarray .int, 2) := dX4_init_18g.2.2.2.2.2.1
theorem dX4_init_27 : decode cX4_init 27 = .ok (.putfield 24, 3) := dX4_init_18g.2.2.2.2.2.2.1
theorem dX4_init_30 : decode cX4_init 30 = .ok (.return_, 1) := dX4_init_18g.2.2.2.2.2.2.2
set_option maxHeartbeats 4000000 in
set_option maxRecDepth 100000 in
theorem c_X4_init_10T (l : Launch) (E : Nat → Nat) (D : va_G) (Gi : th_G) (h0 sz : Nat) (hn0 : Gi h0 = none) (hE : ∀ k : Nat, (32 + 8 * h0 ≤ k ∧ k < 40 + 8 * h0) ∨ 32 + 8 * sz ≤ k → E k = 0)  : Met l yX4_init (tb (.code yX4_init cX4_init 2 none)) ({ frames := 1, cells := 1, slots := 40, locals := 40 } : Room) (va_Pc [.ref h0, .int 10] (fun U => U.heap.size = sz ∧ th_P E D Gi U ∧ va_at D vwCl (h0, .inr (4, [.int 0, .null, .int 0])) U.heap ∧ th_AO U)) (QM E D Gi h0 (4, 42) sz) 1 40 (mA Gi h0 sz) := by
  refine Met.ofW (cc := cX4_init) (maxL := 2) (ret := none) (by decide) rfl ?_
  intro p e s m args below meth c s₁ B hml hv
  obtain ⟨hav, rfl, ⟨hI, hN, hK⟩, hO, hAO⟩ := hv
  have hx := B.exec
  have hb := B.bytes
  have hr := B.returns
  have hts := atoms_spec (ws := tb (.code yX4_init cX4_init 2 none)) B.pre
  have hown : s.vm.findClass RX4 = some m.cls := findClass_of_methodNamed B.named
  have hlocks := B.notSynchronized
  have hin : meth.name = "<init>" := (name_of_methodNamed B.named B.method).1
  have hl := lv_entry ([.ref h0, .int 10]) (n := 2) (Nat.le_of_ble_eq_true rfl)
  rw [show entryFrame m args 2 = entryFrame m ([.ref h0, .int 10] : List Value).toArray 2 from by rw [hav], lg_entry_eq]
  generalize (lg_sl ([.ref h0, .int 10]) ++ List.replicate (2 - (lg_sl ([.ref h0, .int 10])).length) Slot.unset).toArray = ls at hl ⊢
  have hl : lv_has ls 2 [(0, .ref h0), (1, .int 10)] := hl
  generalize hR : (headSpec (tb (.code yX4_init cX4_init 2 none)) ({ frames := 1, cells := 1, slots := 40, locals := 40 } : Room)).room = R
  have hR := hR.symm
  generalize hAe : mA Gi h0 s.heap.size = A
  have hA : ∀ q : Nat, s.heap.size ≤ q → A q := fun q h => by rw [← hAe]; exact Or.inr (Or.inr h)
  have hA0 : A h0 := by rw [← hAe]; exact Or.inr (Or.inl rfl)
  have hS : va_S A s.heap s.heap [] := va_S.rf
  obtain ⟨G, hle0, hI, hn0, hAG⟩ : ∃ G, gle Gi G ∧ th_I (okC E) D G [] s.heap ∧ G h0 = none ∧ (∀ (r : Nat) (k : th_K), G r = some k → A r) := ⟨Gi, gle.rf, hI, hn0, fun r k h => by rw [← hAe]; exact Or.inl ⟨k, h⟩⟩
  refine lv_aload_n hx hb dX4_init_0 rfl (lv_at hl 0 rfl) ?_
  refine W.objInit hx hb hown (hts _ (tb_c wd_41)) (hts _ (tb_c wd_28)) (hts _ (tb_c wd_oinit)) rfl (by rw [hml]; exact hl.1) rfl dX4_init_1 (by rw [hR]; exact Nat.le_of_ble_eq_true rfl) (by rw [hR]; exact Nat.le_of_ble_eq_true rfl) ?_
  refine W.eq (g2 := F0 m 4 ls []) rfl ?_
  refine lv_aload_n hx hb dX4_init_4 rfl (lv_at hl 0 rfl) ?_
  refine lv_iconst (v := 0) hx hb dX4_init_5 (by decide) ?_
  refine th_put (ty := .int) hx hb hts inT4 tyX4 tyX4_ok nmX4 hown hK hO hS hA0 rfl 2 (by decide) (hts _ (tb_c wd_47)) rfl rfl (by decide +kernel) rfl rfl (Nat.le_of_ble_eq_true rfl) dX4_init_6 (fun H locs hO oq hS => ?_)
  have hI := th_raw hI hn0 oq
  have hO : va_at D vwCl (h0, .inr (4, [.int 0, .null, .int 0])) H := hO
  refine lv_aload_n hx hb dX4_init_9 rfl (lv_at hl 0 rfl) ?_
  refine lv_iload_n hx hb dX4_init_10 rfl (lv_at hl 1 rfl) ?_
  refine lv_iconst (v := 0) hx hb dX4_init_11 (by decide) ?_
  refine va_mmax hx hb (hml.trans hl.1.symm) hown (hts _ (tb_c wd_42)) (hts _ (tb_c wd_43)) (hts _ (tb_c wd_4)) (hts _ (tb_c wd_44)) (by rw [hR]; exact Nat.le_of_ble_eq_true rfl) (by rw [hR]; exact Nat.le_of_ble_eq_true rfl) (by rw [hR]; exact Nat.le_of_ble_eq_true rfl) (by rw [hR]; exact Nat.le_of_ble_eq_true rfl) dX4_init_12 ?_
  rw [show (if (10 : Int32) < 0 then (0 : Int32) else 10) = 10 from by decide]
  refine th_putF (ty := .int) hx hb hts inT4 tyX4 tyX4_ok nmX4 hown hK hO hS hA0 rfl 0 (by decide) (hts _ (tb_c wd_45)) rfl hin rfl (by decide +kernel) rfl rfl (Nat.le_of_ble_eq_true rfl) dX4_init_15 (fun H locs hO oq hS => ?_)
  have hI := th_raw hI hn0 oq
  have hO : va_at D vwCl (h0, .inr (4, [.int 10, .null, .int 0])) H := hO
  refine lv_aload_n hx hb dX4_init_18 rfl (lv_at hl 0 rfl) ?_
  refine lv_aload_n hx hb dX4_init_19 rfl (lv_at hl 0 rfl) ?_
  refine th_get hx hb hts inT4 hown hK hO rfl 0 (by decide) (hts _ (tb_c wd_45)) rfl rfl dX4_init_20 ?_
  refine lv_iconst (v := 4) hx hb dX4_init_23 (by decide) ?_
  refine lv_imul hx hb dX4_init_24 ?_
  rw [show (10 : Int32) * 4 = 40 from by decide]
  refine th_newi hx hb (hts _ (tb_c wd_55)) hK hI hS hA hAG 40 (by decide) (by decide) (by decide) (by rw [hR]; exact Nat.le_of_ble_eq_true rfl) (by rw [hR]; exact Nat.le_of_ble_eq_true rfl) dX4_init_25 (fun G a1 H hle hq2 hAG hqe hGne o1 hI hS => ?_)
  have hlt0 : h0 < _ := hO.lt
  have hn0 : G h0 = none := (hGne h0 (by omega)).trans hn0
  have hO := hO.kept (o1 _ hlt0)
  have hle0 := hle0.tr hle
  refine th_putF (ty := (.array .int)) hx hb hts inT4 tyX4 tyX4_ok nmX4 hown hK hO hS hA0 rfl 1 (by decide) (hts _ (tb_c wd_46)) rfl hin rfl (by decide +kernel) rfl rfl (Nat.le_of_ble_eq_true rfl) dX4_init_27 (fun H locs hO oq hS => ?_)
  have hI := th_raw hI hn0 oq
  have hO : va_at D vwCl (h0, .inr (4, [.int 10, .ref a1, .int 0])) H := hO
  have hO : va_at D vwCl (h0, .inr (4, [.int (nI (42 % 32)), .ref a1, .int 0])) H := hO
  have hI := th_type (k := (4, 42)) hI hn0 hO (ok_4 (gx_le hn0 _ _ hq2) ⟨by decide, by decide⟩ (⟨by decide, Or.inr (by rw [hE _ (Or.inl ⟨by omega, by omega⟩)]; decide)⟩))
  refine W.widen (k := 1) (n := 40) (Nat.le_of_ble_eq_true rfl) (Nat.le_of_ble_eq_true rfl) ?_
  rw [← hAe] at hS ⊢
  exact W.vret hx hb hr (fun t ht hW => ⟨⟨gx G h0 (4, 42), rfl, ⟨hle0.tr (gx_le hn0), gx_a, fun r k hr => mA_new (hAe ▸ hAG) hle0 hr⟩, by rw [ht]; exact hI, hN.warm hW, va_K.moved hW.alike hK⟩, hS.F ht⟩) hS.2.2 dX4_init_30
set_option maxHeartbeats 4000000 in
set_option maxRecDepth 100000 in
theorem c_X4_init_8 (l : Launch) (E : Nat → Nat) (D : va_G) (Gi : th_G) (h0 sz : Nat) (hn0 : Gi h0 = none) (hE : ∀ k : Nat, (32 + 8 * h0 ≤ k ∧ k < 40 + 8 * h0) ∨ 32 + 8 * sz ≤ k → E k = 0)  : Met l yX4_init (tb (.code yX4_init cX4_init 2 none)) ({ frames := 1, cells := 1, slots := 32, locals := 40 } : Room) (va_Pc [.ref h0, .int 8] (fun U => U.heap.size = sz ∧ th_P E D Gi U ∧ va_at D vwCl (h0, .inr (4, [.int 0, .null, .int 0])) U.heap ∧ th_AO U)) (QM E D Gi h0 (4, 8) sz) 1 32 (mA Gi h0 sz) := by
  refine Met.ofW (cc := cX4_init) (maxL := 2) (ret := none) (by decide) rfl ?_
  intro p e s m args below meth c s₁ B hml hv
  obtain ⟨hav, rfl, ⟨hI, hN, hK⟩, hO, hAO⟩ := hv
  have hx := B.exec
  have hb := B.bytes
  have hr := B.returns
  have hts := atoms_spec (ws := tb (.code yX4_init cX4_init 2 none)) B.pre
  have hown : s.vm.findClass RX4 = some m.cls := findClass_of_methodNamed B.named
  have hlocks := B.notSynchronized
  have hin : meth.name = "<init>" := (name_of_methodNamed B.named B.method).1
  have hl := lv_entry ([.ref h0, .int 8]) (n := 2) (Nat.le_of_ble_eq_true rfl)
  rw [show entryFrame m args 2 = entryFrame m ([.ref h0, .int 8] : List Value).toArray 2 from by rw [hav], lg_entry_eq]
  generalize (lg_sl ([.ref h0, .int 8]) ++ List.replicate (2 - (lg_sl ([.ref h0, .int 8])).length) Slot.unset).toArray = ls at hl ⊢
  have hl : lv_has ls 2 [(0, .ref h0), (1, .int 8)] := hl
  generalize hR : (headSpec (tb (.code yX4_init cX4_init 2 none)) ({ frames := 1, cells := 1, slots := 32, locals := 40 } : Room)).room = R
  have hR := hR.symm
  generalize hAe : mA Gi h0 s.heap.size = A
  have hA : ∀ q : Nat, s.heap.size ≤ q → A q := fun q h => by rw [← hAe]; exact Or.inr (Or.inr h)
  have hA0 : A h0 := by rw [← hAe]; exact Or.inr (Or.inl rfl)
  have hS : va_S A s.heap s.heap [] := va_S.rf
  obtain ⟨G, hle0, hI, hn0, hAG⟩ : ∃ G, gle Gi G ∧ th_I (okC E) D G [] s.heap ∧ G h0 = none ∧ (∀ (r : Nat) (k : th_K), G r = some k → A r) := ⟨Gi, gle.rf, hI, hn0, fun r k h => by rw [← hAe]; exact Or.inl ⟨k, h⟩⟩
  refine lv_aload_n hx hb dX4_init_0 rfl (lv_at hl 0 rfl) ?_
  refine W.objInit hx hb hown (hts _ (tb_c wd_41)) (hts _ (tb_c wd_28)) (hts _ (tb_c wd_oinit)) rfl (by rw [hml]; exact hl.1) rfl dX4_init_1 (by rw [hR]; exact Nat.le_of_ble_eq_true rfl) (by rw [hR]; exact Nat.le_of_ble_eq_true rfl) ?_
  refine W.eq (g2 := F0 m 4 ls []) rfl ?_
  refine lv_aload_n hx hb dX4_init_4 rfl (lv_at hl 0 rfl) ?_
  refine lv_iconst (v := 0) hx hb dX4_init_5 (by decide) ?_
  refine th_put (ty := .int) hx hb hts inT4 tyX4 tyX4_ok nmX4 hown hK hO hS hA0 rfl 2 (by decide) (hts _ (tb_c wd_47)) rfl rfl (by decide +kernel) rfl rfl (Nat.le_of_ble_eq_true rfl) dX4_init_6 (fun H locs hO oq hS => ?_)
  have hI := th_raw hI hn0 oq
  have hO : va_at D vwCl (h0, .inr (4, [.int 0, .null, .int 0])) H := hO
  refine lv_aload_n hx hb dX4_init_9 rfl (lv_at hl 0 rfl) ?_
  refine lv_iload_n hx hb dX4_init_10 rfl (lv_at hl 1 rfl) ?_
  refine lv_iconst (v := 0) hx hb dX4_init_11 (by decide) ?_
  refine va_mmax hx hb (hml.trans hl.1.symm) hown (hts _ (tb_c wd_42)) (hts _ (tb_c wd_43)) (hts _ (tb_c wd_4)) (hts _ (tb_c wd_44)) (by rw [hR]; exact Nat.le_of_ble_eq_true rfl) (by rw [hR]; exact Nat.le_of_ble_eq_true rfl) (by rw [hR]; exact Nat.le_of_ble_eq_true rfl) (by rw [hR]; exact Nat.le_of_ble_eq_true rfl) dX4_init_12 ?_
  rw [show (if (8 : Int32) < 0 then (0 : Int32) else 8) = 8 from by decide]
  refine th_putF (ty := .int) hx hb hts inT4 tyX4 tyX4_ok nmX4 hown hK hO hS hA0 rfl 0 (by decide) (hts _ (tb_c wd_45)) rfl hin rfl (by decide +kernel) rfl rfl (Nat.le_of_ble_eq_true rfl) dX4_init_15 (fun H locs hO oq hS => ?_)
  have hI := th_raw hI hn0 oq
  have hO : va_at D vwCl (h0, .inr (4, [.int 8, .null, .int 0])) H := hO
  refine lv_aload_n hx hb dX4_init_18 rfl (lv_at hl 0 rfl) ?_
  refine lv_aload_n hx hb dX4_init_19 rfl (lv_at hl 0 rfl) ?_
  refine th_get hx hb hts inT4 hown hK hO rfl 0 (by decide) (hts _ (tb_c wd_45)) rfl rfl dX4_init_20 ?_
  refine lv_iconst (v := 4) hx hb dX4_init_23 (by decide) ?_
  refine lv_imul hx hb dX4_init_24 ?_
  rw [show (8 : Int32) * 4 = 32 from by decide]
  refine th_newi hx hb (hts _ (tb_c wd_55)) hK hI hS hA hAG 32 (by decide) (by decide) (by decide) (by rw [hR]; exact Nat.le_of_ble_eq_true rfl) (by rw [hR]; exact Nat.le_of_ble_eq_true rfl) dX4_init_25 (fun G a1 H hle hq2 hAG hqe hGne o1 hI hS => ?_)
  have hlt0 : h0 < _ := hO.lt
  have hn0 : G h0 = none := (hGne h0 (by omega)).trans hn0
  have hO := hO.kept (o1 _ hlt0)
  have hle0 := hle0.tr hle
  refine th_putF (ty := (.array .int)) hx hb hts inT4 tyX4 tyX4_ok nmX4 hown hK hO hS hA0 rfl 1 (by decide) (hts _ (tb_c wd_46)) rfl hin rfl (by decide +kernel) rfl rfl (Nat.le_of_ble_eq_true rfl) dX4_init_27 (fun H locs hO oq hS => ?_)
  have hI := th_raw hI hn0 oq
  have hO : va_at D vwCl (h0, .inr (4, [.int 8, .ref a1, .int 0])) H := hO
  have hO : va_at D vwCl (h0, .inr (4, [.int (nI (8 % 32)), .ref a1, .int 0])) H := hO
  have hI := th_type (k := (4, 8)) hI hn0 hO (ok_4 (gx_le hn0 _ _ hq2) ⟨by decide, by decide⟩ (⟨by decide, Or.inl (by decide)⟩))
  refine W.widen (k := 1) (n := 32) (Nat.le_of_ble_eq_true rfl) (Nat.le_of_ble_eq_true rfl) ?_
  rw [← hAe] at hS ⊢
  exact W.vret hx hb hr (fun t ht hW => ⟨⟨gx G h0 (4, 8), rfl, ⟨hle0.tr (gx_le hn0), gx_a, fun r k hr => mA_new (hAe ▸ hAG) hle0 hr⟩, by rw [ht]; exact hI, hN.warm hW, va_K.moved hW.alike hK⟩, hS.F ht⟩) hS.2.2 dX4_init_30
set_option maxHeartbeats 4000000 in
set_option maxRecDepth 100000 in
theorem c_X4_init_6 (l : Launch) (E : Nat → Nat) (D : va_G) (Gi : th_G) (h0 sz : Nat) (hn0 : Gi h0 = none) (hE : ∀ k : Nat, (32 + 8 * h0 ≤ k ∧ k < 40 + 8 * h0) ∨ 32 + 8 * sz ≤ k → E k = 0)  : Met l yX4_init (tb (.code yX4_init cX4_init 2 none)) ({ frames := 1, cells := 1, slots := 24, locals := 40 } : Room) (va_Pc [.ref h0, .int 6] (fun U => U.heap.size = sz ∧ th_P E D Gi U ∧ va_at D vwCl (h0, .inr (4, [.int 0, .null, .int 0])) U.heap ∧ th_AO U)) (QM E D Gi h0 (4, 6) sz) 1 24 (mA Gi h0 sz) := by
  refine Met.ofW (cc := cX4_init) (maxL := 2) (ret := none) (by decide) rfl ?_
  intro p e s m args below meth c s₁ B hml hv
  obtain ⟨hav, rfl, ⟨hI, hN, hK⟩, hO, hAO⟩ := hv
  have hx := B.exec
  have hb := B.bytes
  have hr := B.returns
  have hts := atoms_spec (ws := tb (.code yX4_init cX4_init 2 none)) B.pre
  have hown : s.vm.findClass RX4 = some m.cls := findClass_of_methodNamed B.named
  have hlocks := B.notSynchronized
  have hin : meth.name = "<init>" := (name_of_methodNamed B.named B.method).1
  have hl := lv_entry ([.ref h0, .int 6]) (n := 2) (Nat.le_of_ble_eq_true rfl)
  rw [show entryFrame m args 2 = entryFrame m ([.ref h0, .int 6] : List Value).toArray 2 from by rw [hav], lg_entry_eq]
  generalize (lg_sl ([.ref h0, .int 6]) ++ List.replicate (2 - (lg_sl ([.ref h0, .int 6])).length) Slot.unset).toArray = ls at hl ⊢
  have hl : lv_has ls 2 [(0, .ref h0), (1, .int 6)] := hl
  generalize hR : (headSpec (tb (.code yX4_init cX4_init 2 none)) ({ frames := 1, cells := 1, slots := 24, locals := 40 } : Room)).room = R
  have hR := hR.symm
  generalize hAe : mA Gi h0 s.heap.size = A
  have hA : ∀ q : Nat, s.heap.size ≤ q → A q := fun q h => by rw [← hAe]; exact Or.inr (Or.inr h)
  have hA0 : A h0 := by rw [← hAe]; exact Or.inr (Or.inl rfl)
  have hS : va_S A s.heap s.heap [] := va_S.rf
  obtain ⟨G, hle0, hI, hn0, hAG⟩ : ∃ G, gle Gi G ∧ th_I (okC E) D G [] s.heap ∧ G h0 = none ∧ (∀ (r : Nat) (k : th_K), G r = some k → A r) := ⟨Gi, gle.rf, hI, hn0, fun r k h => by rw [← hAe]; exact Or.inl ⟨k, h⟩⟩
  refine lv_aload_n hx hb dX4_init_0 rfl (lv_at hl 0 rfl) ?_
  refine W.objInit hx hb hown (hts _ (tb_c wd_41)) (hts _ (tb_c wd_28)) (hts _ (tb_c wd_oinit)) rfl (by rw [hml]; exact hl.1) rfl dX4_init_1 (by rw [hR]; exact Nat.le_of_ble_eq_true rfl) (by rw [hR]; exact Nat.le_of_ble_eq_true rfl) ?_
  refine W.eq (g2 := F0 m 4 ls []) rfl ?_
  refine lv_aload_n hx hb dX4_init_4 rfl (lv_at hl 0 rfl) ?_
  refine lv_iconst (v := 0) hx hb dX4_init_5 (by decide) ?_
  refine th_put (ty := .int) hx hb hts inT4 tyX4 tyX4_ok nmX4 hown hK hO hS hA0 rfl 2 (by decide) (hts _ (tb_c wd_47)) rfl rfl (by decide +kernel) rfl rfl (Nat.le_of_ble_eq_true rfl) dX4_init_6 (fun H locs hO oq hS => ?_)
  have hI := th_raw hI hn0 oq
  have hO : va_at D vwCl (h0, .inr (4, [.int 0, .null, .int 0])) H := hO
  refine lv_aload_n hx hb dX4_init_9 rfl (lv_at hl 0 rfl) ?_
  refine lv_iload_n hx hb dX4_init_10 rfl (lv_at hl 1 rfl) ?_
  refine lv_iconst (v := 0) hx hb dX4_init_11 (by decide) ?_
  refine va_mmax hx hb (hml.trans hl.1.symm) hown (hts _ (tb_c wd_42)) (hts _ (tb_c wd_43)) (hts _ (tb_c wd_4)) (hts _ (tb_c wd_44)) (by rw [hR]; exact Nat.le_of_ble_eq_true rfl) (by rw [hR]; exact Nat.le_of_ble_eq_true rfl) (by rw [hR]; exact Nat.le_of_ble_eq_true rfl) (by rw [hR]; exact Nat.le_of_ble_eq_true rfl) dX4_init_12 ?_
  rw [show (if (6 : Int32) < 0 then (0 : Int32) else 6) = 6 from by decide]
  refine th_putF (ty := .int) hx hb hts inT4 tyX4 tyX4_ok nmX4 hown hK hO hS hA0 rfl 0 (by decide) (hts _ (tb_c wd_45)) rfl hin rfl (by decide +kernel) rfl rfl (Nat.le_of_ble_eq_true rfl) dX4_init_15 (fun H locs hO oq hS => ?_)
  have hI := th_raw hI hn0 oq
  have hO : va_at D vwCl (h0, .inr (4, [.int 6, .null, .int 0])) H := hO
  refine lv_aload_n hx hb dX4_init_18 rfl (lv_at hl 0 rfl) ?_
  refine lv_aload_n hx hb dX4_init_19 rfl (lv_at hl 0 rfl) ?_
  refine th_get hx hb hts inT4 hown hK hO rfl 0 (by decide) (hts _ (tb_c wd_45)) rfl rfl dX4_init_20 ?_
  refine lv_iconst (v := 4) hx hb dX4_init_23 (by decide) ?_
  refine lv_imul hx hb dX4_init_24 ?_
  rw [show (6 : Int32) * 4 = 24 from by decide]
  refine th_newi hx hb (hts _ (tb_c wd_55)) hK hI hS hA hAG 24 (by decide) (by decide) (by decide) (by rw [hR]; exact Nat.le_of_ble_eq_true rfl) (by rw [hR]; exact Nat.le_of_ble_eq_true rfl) dX4_init_25 (fun G a1 H hle hq2 hAG hqe hGne o1 hI hS => ?_)
  have hlt0 : h0 < _ := hO.lt
  have hn0 : G h0 = none := (hGne h0 (by omega)).trans hn0
  have hO := hO.kept (o1 _ hlt0)
  have hle0 := hle0.tr hle
  refine th_putF (ty := (.array .int)) hx hb hts inT4 tyX4 tyX4_ok nmX4 hown hK hO hS hA0 rfl 1 (by decide) (hts _ (tb_c wd_46)) rfl hin rfl (by decide +kernel) rfl rfl (Nat.le_of_ble_eq_true rfl) dX4_init_27 (fun H locs hO oq hS => ?_)
  have hI := th_raw hI hn0 oq
  have hO : va_at D vwCl (h0, .inr (4, [.int 6, .ref a1, .int 0])) H := hO
  have hO : va_at D vwCl (h0, .inr (4, [.int (nI (6 % 32)), .ref a1, .int 0])) H := hO
  have hI := th_type (k := (4, 6)) hI hn0 hO (ok_4 (gx_le hn0 _ _ hq2) ⟨by decide, by decide⟩ (⟨by decide, Or.inl (by decide)⟩))
  refine W.widen (k := 1) (n := 24) (Nat.le_of_ble_eq_true rfl) (Nat.le_of_ble_eq_true rfl) ?_
  rw [← hAe] at hS ⊢
  exact W.vret hx hb hr (fun t ht hW => ⟨⟨gx G h0 (4, 6), rfl, ⟨hle0.tr (gx_le hn0), gx_a, fun r k hr => mA_new (hAe ▸ hAG) hle0 hr⟩, by rw [ht]; exact hI, hN.warm hW, va_K.moved hW.alike hK⟩, hS.F ht⟩) hS.2.2 dX4_init_30
set_option maxHeartbeats 4000000 in
set_option maxRecDepth 100000 in
theorem c_X4_init_16 (l : Launch) (E : Nat → Nat) (D : va_G) (Gi : th_G) (h0 sz : Nat) (hn0 : Gi h0 = none) (hE : ∀ k : Nat, (32 + 8 * h0 ≤ k ∧ k < 40 + 8 * h0) ∨ 32 + 8 * sz ≤ k → E k = 0)  : Met l yX4_init (tb (.code yX4_init cX4_init 2 none)) ({ frames := 1, cells := 1, slots := 64, locals := 40 } : Room) (va_Pc [.ref h0, .int 16] (fun U => U.heap.size = sz ∧ th_P E D Gi U ∧ va_at D vwCl (h0, .inr (4, [.int 0, .null, .int 0])) U.heap ∧ th_AO U)) (QM E D Gi h0 (4, 16) sz) 1 64 (mA Gi h0 sz) := by
  refine Met.ofW (cc := cX4_init) (maxL := 2) (ret := none) (by decide) rfl ?_
  intro p e s m args below meth c s₁ B hml hv
  obtain ⟨hav, rfl, ⟨hI, hN, hK⟩, hO, hAO⟩ := hv
  have hx := B.exec
  have hb := B.bytes
  have hr := B.returns
  have hts := atoms_spec (ws := tb (.code yX4_init cX4_init 2 none)) B.pre
  have hown : s.vm.findClass RX4 = some m.cls := findClass_of_methodNamed B.named
  have hlocks := B.notSynchronized
  have hin : meth.name = "<init>" := (name_of_methodNamed B.named B.method).1
  have hl := lv_entry ([.ref h0, .int 16]) (n := 2) (Nat.le_of_ble_eq_true rfl)
  rw [show entryFrame m args 2 = entryFrame m ([.ref h0, .int 16] : List Value).toArray 2 from by rw [hav], lg_entry_eq]
  generalize (lg_sl ([.ref h0, .int 16]) ++ List.replicate (2 - (lg_sl ([.ref h0, .int 16])).length) Slot.unset).toArray = ls at hl ⊢
  have hl : lv_has ls 2 [(0, .ref h0), (1, .int 16)] := hl
  generalize hR : (headSpec (tb (.code yX4_init cX4_init 2 none)) ({ frames := 1, cells := 1, slots := 64, locals := 40 } : Room)).room = R
  have hR := hR.symm
  generalize hAe : mA Gi h0 s.heap.size = A
  have hA : ∀ q : Nat, s.heap.size ≤ q → A q := fun q h => by rw [← hAe]; exact Or.inr (Or.inr h)
  have hA0 : A h0 := by rw [← hAe]; exact Or.inr (Or.inl rfl)
  have hS : va_S A s.heap s.heap [] := va_S.rf
  obtain ⟨G, hle0, hI, hn0, hAG⟩ : ∃ G, gle Gi G ∧ th_I (okC E) D G [] s.heap ∧ G h0 = none ∧ (∀ (r : Nat) (k : th_K), G r = some k → A r) := ⟨Gi, gle.rf, hI, hn0, fun r k h => by rw [← hAe]; exact Or.inl ⟨k, h⟩⟩
  refine lv_aload_n hx hb dX4_init_0 rfl (lv_at hl 0 rfl) ?_
  refine W.objInit hx hb hown (hts _ (tb_c wd_41)) (hts _ (tb_c wd_28)) (hts _ (tb_c wd_oinit)) rfl (by rw [hml]; exact hl.1) rfl dX4_init_1 (by rw [hR]; exact Nat.le_of_ble_eq_true rfl) (by rw [hR]; exact Nat.le_of_ble_eq_true rfl) ?_
  refine W.eq (g2 := F0 m 4 ls []) rfl ?_
  refine lv_aload_n hx hb dX4_init_4 rfl (lv_at hl 0 rfl) ?_
  refine lv_iconst (v := 0) hx hb dX4_init_5 (by decide) ?_
  refine th_put (ty := .int) hx hb hts inT4 tyX4 tyX4_ok nmX4 hown hK hO hS hA0 rfl 2 (by decide) (hts _ (tb_c wd_47)) rfl rfl (by decide +kernel) rfl rfl (Nat.le_of_ble_eq_true rfl) dX4_init_6 (fun H locs hO oq hS => ?_)
  have hI := th_raw hI hn0 oq
  have hO : va_at D vwCl (h0, .inr (4, [.int 0, .null, .int 0])) H := hO
  refine lv_aload_n hx hb dX4_init_9 rfl (lv_at hl 0 rfl) ?_
  refine lv_iload_n hx hb dX4_init_10 rfl (lv_at hl 1 rfl) ?_
  refine lv_iconst (v := 0) hx hb dX4_init_11 (by decide) ?_
  refine va_mmax hx hb (hml.trans hl.1.symm) hown (hts _ (tb_c wd_42)) (hts _ (tb_c wd_43)) (hts _ (tb_c wd_4)) (hts _ (tb_c wd_44)) (by rw [hR]; exact Nat.le_of_ble_eq_true rfl) (by rw [hR]; exact Nat.le_of_ble_eq_true rfl) (by rw [hR]; exact Nat.le_of_ble_eq_true rfl) (by rw [hR]; exact Nat.le_of_ble_eq_true rfl) dX4_init_12 ?_
  rw [show (if (16 : Int32) < 0 then (0 : Int32) else 16) = 16 from by decide]
  refine th_putF (ty := .int) hx hb hts inT4 tyX4 tyX4_ok nmX4 hown hK hO hS hA0 rfl 0 (by decide) (hts _ (tb_c wd_45)) rfl hin rfl (by decide +kernel) rfl rfl (Nat.le_of_ble_eq_true rfl) dX4_init_15 (fun H locs hO oq hS => ?_)
  have hI := th_raw hI hn0 oq
  have hO : va_at D vwCl (h0, .inr (4, [.int 16, .null, .int 0])) H := hO
  refine lv_aload_n hx hb dX4_init_18 rfl (lv_at hl 0 rfl) ?_
  refine lv_aload_n hx hb dX4_init_19 rfl (lv_at hl 0 rfl) ?_
  refine th_get hx hb hts inT4 hown hK hO rfl 0 (by decide) (hts _ (tb_c wd_45)) rfl rfl dX4_init_20 ?_
  refine lv_iconst (v := 4) hx hb dX4_init_23 (by decide) ?_
  refine lv_imul hx hb dX4_init_24 ?_
  rw [show (16 : Int32) * 4 = 64 from by decide]
  refine th_newi hx hb (hts _ (tb_c wd_55)) hK hI hS hA hAG 64 (by decide) (by decide) (by decide) (by rw [hR]; exact Nat.le_of_ble_eq_true rfl) (by rw [hR]; exact Nat.le_of_ble_eq_true rfl) dX4_init_25 (fun G a1 H hle hq2 hAG hqe hGne o1 hI hS => ?_)
  have hlt0 : h0 < _ := hO.lt
  have hn0 : G h0 = none := (hGne h0 (by omega)).trans hn0
  have hO := hO.kept (o1 _ hlt0)
  have hle0 := hle0.tr hle
  refine th_putF (ty := (.array .int)) hx hb hts inT4 tyX4 tyX4_ok nmX4 hown hK hO hS hA0 rfl 1 (by decide) (hts _ (tb_c wd_46)) rfl hin rfl (by decide +kernel) rfl rfl (Nat.le_of_ble_eq_true rfl) dX4_init_27 (fun H locs hO oq hS => ?_)
  have hI := th_raw hI hn0 oq
  have hO : va_at D vwCl (h0, .inr (4, [.int 16, .ref a1, .int 0])) H := hO
  have hO : va_at D vwCl (h0, .inr (4, [.int (nI (16 % 32)), .ref a1, .int 0])) H := hO
  have hI := th_type (k := (4, 16)) hI hn0 hO (ok_4 (gx_le hn0 _ _ hq2) ⟨by decide, by decide⟩ (⟨by decide, Or.inl (by decide)⟩))
  refine W.widen (k := 1) (n := 64) (Nat.le_of_ble_eq_true rfl) (Nat.le_of_ble_eq_true rfl) ?_
  rw [← hAe] at hS ⊢
  exact W.vret hx hb hr (fun t ht hW => ⟨⟨gx G h0 (4, 16), rfl, ⟨hle0.tr (gx_le hn0), gx_a, fun r k hr => mA_new (hAe ▸ hAG) hle0 hr⟩, by rw [ht]; exact hI, hN.warm hW, va_K.moved hW.alike hK⟩, hS.F ht⟩) hS.2.2 dX4_init_30
set_option maxHeartbeats 4000000 in
set_option maxRecDepth 100000 in
theorem c_X4_init_10 (l : Launch) (E : Nat → Nat) (D : va_G) (Gi : th_G) (h0 sz : Nat) (hn0 : Gi h0 = none) (hE : ∀ k : Nat, (32 + 8 * h0 ≤ k ∧ k < 40 + 8 * h0) ∨ 32 + 8 * sz ≤ k → E k = 0)  : Met l yX4_init (tb (.code yX4_init cX4_init 2 none)) ({ frames := 1, cells := 1, slots := 40, locals := 40 } : Room) (va_Pc [.ref h0, .int 10] (fun U => U.heap.size = sz ∧ th_P E D Gi U ∧ va_at D vwCl (h0, .inr (4, [.int 0, .null, .int 0])) U.heap ∧ th_AO U)) (QM E D Gi h0 (4, 10) sz) 1 40 (mA Gi h0 sz) := by
  refine Met.ofW (cc := cX4_init) (maxL := 2) (ret := none) (by decide) rfl ?_
  intro p e s m args below meth c s₁ B hml hv
  obtain ⟨hav, rfl, ⟨hI, hN, hK⟩, hO, hAO⟩ := hv
  have hx := B.exec
  have hb := B.bytes
  have hr := B.returns
  have hts := atoms_spec (ws := tb (.code yX4_init cX4_init 2 none)) B.pre
  have hown : s.vm.findClass RX4 = some m.cls := findClass_of_methodNamed B.named
  have hlocks := B.notSynchronized
  have hin : meth.name = "<init>" := (name_of_methodNamed B.named B.method).1
  have hl := lv_entry ([.ref h0, .int 10]) (n := 2) (Nat.le_of_ble_eq_true rfl)
  rw [show entryFrame m args 2 = entryFrame m ([.ref h0, .int 10] : List Value).toArray 2 from by rw [hav], lg_entry_eq]
  generalize (lg_sl ([.ref h0, .int 10]) ++ List.replicate (2 - (lg_sl ([.ref h0, .int 10])).length) Slot.unset).toArray = ls at hl ⊢
  have hl : lv_has ls 2 [(0, .ref h0), (1, .int 10)] := hl
  generalize hR : (headSpec (tb (.code yX4_init cX4_init 2 none)) ({ frames := 1, cells := 1, slots := 40, locals := 40 } : Room)).room = R
  have hR := hR.symm
  generalize hAe : mA Gi h0 s.heap.size = A
  have hA : ∀ q : Nat, s.heap.size ≤ q → A q := fun q h => by rw [← hAe]; exact Or.inr (Or.inr h)
  have hA0 : A h0 := by rw [← hAe]; exact Or.inr (Or.inl rfl)
  have hS : va_S A s.heap s.heap [] := va_S.rf
  obtain ⟨G, hle0, hI, hn0, hAG⟩ : ∃ G, gle Gi G ∧ th_I (okC E) D G [] s.heap ∧ G h0 = none ∧ (∀ (r : Nat) (k : th_K), G r = some k → A r) := ⟨Gi, gle.rf, hI, hn0, fun r k h => by rw [← hAe]; exact Or.inl ⟨k, h⟩⟩
  refine lv_aload_n hx hb dX4_init_0 rfl (lv_at hl 0 rfl) ?_
  refine W.objInit hx hb hown (hts _ (tb_c wd_41)) (hts _ (tb_c wd_28)) (hts _ (tb_c wd_oinit)) rfl (by rw [hml]; exact hl.1) rfl dX4_init_1 (by rw [hR]; exact Nat.le_of_ble_eq_true rfl) (by rw [hR]; exact Nat.le_of_ble_eq_true rfl) ?_
  refine W.eq (g2 := F0 m 4 ls []) rfl ?_
  refine lv_aload_n hx hb dX4_init_4 rfl (lv_at hl 0 rfl) ?_
  refine lv_iconst (v := 0) hx hb dX4_init_5 (by decide) ?_
  refine th_put (ty := .int) hx hb hts inT4 tyX4 tyX4_ok nmX4 hown hK hO hS hA0 rfl 2 (by decide) (hts _ (tb_c wd_47)) rfl rfl (by decide +kernel) rfl rfl (Nat.le_of_ble_eq_true rfl) dX4_init_6 (fun H locs hO oq hS => ?_)
  have hI := th_raw hI hn0 oq
  have hO : va_at D vwCl (h0, .inr (4, [.int 0, .null, .int 0])) H := hO
  refine lv_aload_n hx hb dX4_init_9 rfl (lv_at hl 0 rfl) ?_
  refine lv_iload_n hx hb dX4_init_10 rfl (lv_at hl 1 rfl) ?_
  refine lv_iconst (v := 0) hx hb dX4_init_11 (by decide) ?_
  refine va_mmax hx hb (hml.trans hl.1.symm) hown (hts _ (tb_c wd_42)) (hts _ (tb_c wd_43)) (hts _ (tb_c wd_4)) (hts _ (tb_c wd_44)) (by rw [hR]; exact Nat.le_of_ble_eq_true rfl) (by rw [hR]; exact Nat.le_of_ble_eq_true rfl) (by rw [hR]; exact Nat.le_of_ble_eq_true rfl) (by rw [hR]; exact Nat.le_of_ble_eq_true rfl) dX4_init_12 ?_
  rw [show (if (10 : Int32) < 0 then (0 : Int32) else 10) = 10 from by decide]
  refine th_putF (ty := .int) hx hb hts inT4 tyX4 tyX4_ok nmX4 hown hK hO hS hA0 rfl 0 (by decide) (hts _ (tb_c wd_45)) rfl hin rfl (by decide +kernel) rfl rfl (Nat.le_of_ble_eq_true rfl) dX4_init_15 (fun H locs hO oq hS => ?_)
  have hI := th_raw hI hn0 oq
  have hO : va_at D vwCl (h0, .inr (4, [.int 10, .null, .int 0])) H := hO
  refine lv_aload_n hx hb dX4_init_18 rfl (lv_at hl 0 rfl) ?_
  refine lv_aload_n hx hb dX4_init_19 rfl (lv_at hl 0 rfl) ?_
  refine th_get hx hb hts inT4 hown hK hO rfl 0 (by decide) (hts _ (tb_c wd_45)) rfl rfl dX4_init_20 ?_
  refine lv_iconst (v := 4) hx hb dX4_init_23 (by decide) ?_
  refine lv_imul hx hb dX4_init_24 ?_
  rw [show (10 : Int32) * 4 = 40 from by decide]
  refine th_newi hx hb (hts _ (tb_c wd_55)) hK hI hS hA hAG 40 (by decide) (by decide) (by decide) (by rw [hR]; exact Nat.le_of_ble_eq_true rfl) (by rw [hR]; exact Nat.le_of_ble_eq_true rfl) dX4_init_25 (fun G a1 H hle hq2 hAG hqe hGne o1 hI hS => ?_)
  have hlt0 : h0 < _ := hO.lt
  have hn0 : G h0 = none := (hGne h0 (by omega)).trans hn0
  have hO := hO.kept (o1 _ hlt0)
  have hle0 := hle0.tr hle
  refine th_putF (ty := (.array .int)) hx hb hts inT4 tyX4 tyX4_ok nmX4 hown hK hO hS hA0 rfl 1 (by decide) (hts _ (tb_c wd_46)) rfl hin rfl (by decide +kernel) rfl rfl (Nat.le_of_ble_eq_true rfl) dX4_init_27 (fun H locs hO oq hS => ?_)
  have hI := th_raw hI hn0 oq
  have hO : va_at D vwCl (h0, .inr (4, [.int 10, .ref a1, .int 0])) H := hO
  have hO : va_at D vwCl (h0, .inr (4, [.int (nI (10 % 32)), .ref a1, .int 0])) H := hO
  have hI := th_type (k := (4, 10)) hI hn0 hO (ok_4 (gx_le hn0 _ _ hq2) ⟨by decide, by decide⟩ (⟨by decide, Or.inl (by decide)⟩))
  refine W.widen (k := 1) (n := 40) (Nat.le_of_ble_eq_true rfl) (Nat.le_of_ble_eq_true rfl) ?_
  rw [← hAe] at hS ⊢
  exact W.vret hx hb hr (fun t ht hW => ⟨⟨gx G h0 (4, 10), rfl, ⟨hle0.tr (gx_le hn0), gx_a, fun r k hr => mA_new (hAe ▸ hAG) hle0 hr⟩, by rw [ht]; exact hI, hN.warm hW, va_K.moved hW.alike hK⟩, hS.F ht⟩) hS.2.2 dX4_init_30
theorem dX6_init_0g : (decode cX6_init 0 = .ok (.aload_n 0, 1)) ∧ (decode cX6_init 1 = .ok (.invokespecial 3, 3)) ∧ (decode cX6_init 4 = .ok (.aload_n 0, 1)) ∧ (decode cX6_init 5 = .ok (.bipush 10, 2)) ∧ (decode cX6_init 7 = .ok (.newarray .int, 2)) ∧ (decode cX6_init 9 = .ok (.putfield 9, 3)) ∧ (decode cX6_init 12 = .ok (.aload_n 0, 1)) ∧ (decode cX6_init 13 = .ok (.bipush 96, 2)) ∧ (decode cX6_init 15 = .ok (.newarray .int, 2)) ∧ (decode cX6_init 17 = .ok (.putfield 15, 3)) := by decide +kernel
theorem dX6_init_0 : decode cX6_init 0 = .ok (.aload_n 0, 1) := dX6_init_0g.1
theorem dX6_init_1 : decode cX6_init 1 = .ok (.invokespecial 3, 3) := dX6_init_0g.2.1
theorem dX6_init_4 : decode cX6_init 4 = .ok (.aload_n 0, 1) := dX6_init_0g.2.2.1
theorem dX6_init_5 : decode cX6_init 5 = .ok (.bipush 10, 2) := dX6_init_0g.2.2.2.1
theorem dX6_init_7 : decode cX6_init 7 = .ok (.newarray .int, 2) := dX6_init_0g.2.2.2.2.1
theorem dX6_init_9 : decode cX6_init 9 = .ok (.putfield 9, 3) := dX6_init_0g.2.2.2.2.2.1
theorem dX6_init_12 : decode cX6_init 12 = .ok (.aload_n 0, 1) := dX6_init_0g.2.2.2.2.2.2.1
theorem dX6_init_13 : decode cX6_init 13 = .ok (.bipush 96, 2) := dX6_init_0g.2.2.2.2.2.2.2.1
theorem dX6_init_15 : decode cX6_init 15 = .ok (.newarray .int, 2) := dX6_init_0g.2.2.2.2.2.2.2.2.1
theorem dX6_init_17 : decode cX6_init 17 = .ok (.putfield 15, 3) := dX6_init_0g.2.2.2.2.2.2.2.2.2
theorem dX6_init_20g : (decode cX6_init 20 = .ok (.aload_n 0, 1)) ∧ (decode cX6_init 21 = .ok (.new 18, 3)) ∧ (decode cX6_init 24 = .ok (.dup, 1)) ∧ (decode cX6_init 25 = .ok (.bipush 8, 2)) ∧ (decode cX6_init 27 = .ok (.invokespecial 20, 3)) ∧ (decode cX6_init 30 = .ok (.putfield 23, 3)) ∧ (decode cX6_init 33 = .ok (.aload_n 0, 1)) ∧ (decode cX6_init 34 = .ok (.new 18, 3)) ∧ (decode cX6_init 37 = .ok (.dup, 1)) ∧ (decode cX6_init 38 = .ok (.bipush 6, 2)) := by decide +kernel
theorem dX6_init_20 : decode cX6_init 20 = .ok (.aload_n 0, 1) := dX6_init_20g.1
theorem dX6_init_21 : decode cX6_init 21 = .ok (.new 18, 3) := dX6_init_20g.2.1
theorem dX6_init_24 : decode cX6_init 24 = .ok (.dup, 1) := dX6_init_20g.2.2.1
theorem dX6_init_25 : decode cX6_init 25 = .ok (.bipush 8, 2) := dX6_init_20g.2.2.2.1
theorem dX6_init_27 : decode cX6_init 27 = .ok (.invokespecial 20, 3) := dX6_init_20g.2.2.2.2.1
theorem dX6_init_30 : decode cX6_init 30 = .ok (.putfield 23, 3) := dX6_init_20g.2.2.2.2.2.1
theorem dX6_init_33 : decode cX6_init 33 = .ok (.aload_n 0, 1) := dX6_init_20g.2.2.2.2.2.2.1
theorem dX6_init_34 : decode cX6_init 34 = .ok (.new 18, 3) := dX6_init_20g.2.2.2.2.2.2.2.1
theorem dX6_init_37 : decode cX6_init 37 = .ok (.dup, 1) := dX6_init_20g.2.2.2.2.2.2.2.2.1
theorem dX6_init_38 : decode cX6_init 38 = .ok (.bipush 6, 2) := dX6_init_20g.2.2.2.2.2.2.2.2.2
theorem dX6_init_40g : (decode cX6_init 40 = .ok (.invokespecial 20, 3)) ∧ (decode cX6_init 43 = .ok (.putfield 27, 3)) ∧ (decode cX6_init 46 = .ok (.aload_n 0, 1)) ∧ (decode cX6_init 47 = .ok (.new 18, 3)) ∧ (decode cX6_init 50 = .ok (.dup, 1)) ∧ (decode cX6_init 51 = .ok (.bipush 6, 2)) ∧ (decode cX6_init 53 = .ok (.invokespecial 20, 3)) ∧ (decode cX6_init 56 = .ok (.putfield 30, 3)) ∧ (decode cX6_init 59 = .ok (.aload_n 0, 1)) ∧ (decode cX6_init 60 = .ok (.new 18, 3)) := by decide +kernel
theorem dX6_init_40 : decode cX6_init 40 = .ok (.invokespecial 20, 3) := dX6_init_40g.1
theorem dX6_init_43 : decode cX6_init 43 = .ok (.putfield 27, 3) := dX6_init_40g.2.1
theorem dX6_init_46 : decode cX6_init 46 = .ok (.aload_n 0, 1) := dX6_init_40g.2.2.1
theorem dX6_init_47 : decode cX6_init 47 = .ok (.new 18, 3) := dX6_init_40g.2.2.2.1
theorem dX6_init_50 : decode cX6_init 50 = .ok (.dup, 1) := dX6_init_40g.2.2.2.2.1
theorem dX6_init_51 : decode cX6_init 51 = .ok (.bipush 6, 2) := dX6_init_40g.2.2.2.2.2.1
theorem dX6_init_53 : decode cX6_init 53 = .ok (.invokespecial 20, 3) := dX6_init_40g.2.2.2.2.2.2.1
theorem dX6_init_56 : decode cX6_init 56 = .ok (.putfield 30, 3) := dX6_init_40g.2.2.2.2.2.2.2.1
theorem dX6_init_59 : decode cX6_init 59 = .ok (.aload_n 0, 1) := dX6_init_40g.2.2.2.2.2.2.2.2.1
theorem dX6_init_60 : decode cX6_init 60 = .ok (.new 18, 3) := dX6_init_40g.2.2.2.2.2.2.2.2.2
theorem dX6_init_63g : (decode cX6_init 63 = .ok (.dup, 1)) ∧ (decode cX6_init 64 = .ok (.bipush 16, 2)) ∧ (decode cX6_init 66 = .ok (.invokespecial 20, 3)) ∧ (decode cX6_init 69 = .ok (.putfield 33, 3)) ∧ (decode cX6_init 72 = .ok (.aload_n 0, 1)) ∧ (decode cX6_init 73 = .ok (.new 18, 3)) ∧ (decode cX6_init 76 = .ok (.dup, 1)) ∧ (decode cX6_init 77 = .ok (.bipush 10, 2)) ∧ (decode cX6_init 79 = .ok (.invokespecial 20, 3)) ∧ (decode cX6_init 82 = .ok (.putfield 36, 3)) := by decide +kernel
theorem dX6_init_63 : decode cX6_init 63 = .ok (.dup, 1) := dX6_init_63g.1
theorem dX6_init_64 : decode cX6_init 64 = .ok (.bipush 16, 2) := dX6_init_63g.2.1
theorem dX6_init_66 : decode cX6_init 66 = .ok (.invokespecial 20, 3) := dX6_init_63g.2.2.1
theorem dX6_init_69 : decode cX6_init 69 = .ok (.putfield 33, 3) := dX6_init_63g.2.2.2.1
theorem dX6_init_72 : decode cX6_init 72 = .ok (.aload_n 0, 1) := dX6_init_63g.2.2.2.2.1
theorem dX6_init_73 : decode cX6_init 73 = .ok (.new 18, 3) := dX6_init_63g.2.2.2.2.2.1
theorem dX6_init_76 : decode cX6_init 76 = .ok (.dup, 1) := dX6_init_63g.2.2.2.2.2.2.1
theorem dX6_init_77 : decode cX6_init 77 = .ok (.bipush 10, 2) := dX6_init_63g.2.2.2.2.2.2.2.1
theorem dX6_init_79 : decode cX6_init 79 = .ok (.invokespecial 20, 3) := dX6_init_63g.2.2.2.2.2.2.2.2.1
theorem dX6_init_82 : decode cX6_init 82 = .ok (.putfield 36, 3) := dX6_init_63g.2.2.2.2.2.2.2.2.2
theorem dX6_init_85g : (decode cX6_init 85 = .ok (.aload_n 0, 1)) ∧ (decode cX6_init 86 = .ok (.new 18, 3)) ∧ (decode cX6_init 89 = .ok (.dup, 1)) ∧ (decode cX6_init 90 = .ok (.bipush 6, 2)) ∧ (decode cX6_init 92 = .ok (.invokespecial 20, 3)) ∧ (decode cX6_init 95 = .ok (.putfield 39, 3)) ∧ (decode cX6_init 98 = .ok (.aload_n 0, 1)) ∧ (decode cX6_init 99 = .ok (.new 18, 3)) ∧ (decode cX6_init 102 = .ok (.dup, 1)) ∧ (decode cX6_init 103 = .ok (.bipush 6, 2)) := by decide +kernel
theorem dX6_init_85 : decode cX6_init 85 = .ok (.aload_n 0, 1) := dX6_init_85g.1
theorem dX6_init_86 : decode cX6_init 86 = .ok (.new 18, 3) := dX6_init_85g.2.1
theorem dX6_init_89 : decode cX6_init 89 = .ok (.dup, 1) := dX6_init_85g.2.2.1
theorem dX6_init_90 : decode cX6_init 90 = .ok (.bipush 6, 2) := dX6_init_85g.2.2.2.1
theorem dX6_init_92 : decode cX6_init 92 = .ok (.invokespecial 20, 3) := dX6_init_85g.2.2.2.2.1
theorem dX6_init_95 : decode cX6_init 95 = .ok (.putfield 39, 3) := dX6_init_85g.2.2.2.2.2.1
theorem dX6_init_98 : decode cX6_init 98 = .ok (.aload_n 0, 1) := dX6_init_85g.2.2.2.2.2.2.1
theorem dX6_init_99 : decode cX6_init 99 = .ok (.new 18, 3) := dX6_init_85g.2.2.2.2.2.2.2.1
theorem dX6_init_102 : decode cX6_init 102 = .ok (.dup, 1) := dX6_init_85g.2.2.2.2.2.2.2.2.1
theorem dX6_init_103 : decode cX6_init 103 = .ok (.bipush 6, 2) := dX6_init_85g.2.2.2.2.2.2.2.2.2
theorem dX6_init_105g : (decode cX6_init 105 = .ok (.invokespecial 20, 3)) ∧ (decode cX6_init 108 = .ok (.putfield 42, 3)) ∧ (decode cX6_init 111 = .ok (.aload_n 0, 1)) ∧ (decode cX6_init 112 = .ok (.bipush 6, 2)) ∧ (decode cX6_init 114 = .ok (.anewarray 45, 3)) ∧ (decode cX6_init 117 = .ok (.putfield 47, 3)) ∧ (decode cX6_init 120 = .ok (.aload_n 0, 1)) ∧ (decode cX6_init 121 = .ok (.iconst 0, 1)) ∧ (decode cX6_init 122 = .ok (.putfield 51, 3)) ∧ (decode cX6_init 125 = .ok (.aload_n 0, 1)) := by decide +kernel
theorem dX6_init_105 : decode cX6_init 105 = .ok (.invokespecial 20, 3) := dX6_init_105g.1
theorem dX6_init_108 : decode cX6_init 108 = .ok (.putfield 42, 3) := dX6_init_105g.2.1
theorem dX6_init_111 : decode cX6_init 111 = .ok (.aload_n 0, 1) := dX6_init_105g.2.2.1
theorem dX6_init_112 : decode cX6_init 112 = .ok (.bipush 6, 2) := dX6_init_105g.2.2.2.1
theorem dX6_init_114 : decode cX6_init 114 = .ok (.anewarray 45, 3) := dX6_init_105g.2.2.2.2.1
theorem dX6_init_117 : decode cX6_init 117 = .ok (.putfield 47, 3) := dX6_init_105g.2.2.2.2.2.1
theorem dX6_init_120 : decode cX6_init 120 = .ok (.aload_n 0, 1) := dX6_init_105g.2.2.2.2.2.2.1
theorem dX6_init_121 : decode cX6_init 121 = .ok (.iconst 0, 1) := dX6_init_105g.2.2.2.2.2.2.2.1
theorem dX6_init_122 : decode cX6_init 122 = .ok (.putfield 51, 3) := dX6_init_105g.2.2.2.2.2.2.2.2.1
theorem dX6_init_125 : decode cX6_init 125 = .ok (.aload_n 0, 1) := dX6_init_105g.2.2.2.2.2.2.2.2.2
theorem dX6_init_126g : (decode cX6_init 126 = .ok (.iconst (-1), 1)) ∧ (decode cX6_init 127 = .ok (.putfield 55, 3)) ∧ (decode cX6_init 130 = .ok (.aload_n 0, 1)) ∧ (decode cX6_init 131 = .ok (.iconst 1, 1)) ∧ (decode cX6_init 132 = .ok (.putfield 58, 3)) ∧ (decode cX6_init 135 = .ok (.aload_n 0, 1)) ∧ (decode cX6_init 136 = .ok (.iconst 0, 1)) ∧ (decode cX6_init 137 = .ok (.putfield 61, 3)) ∧ (decode cX6_init 140 = .ok (.aload_n 0, 1)) ∧ (decode cX6_init 141 = .ok (.getfield 9, 3)) := by decide +kernel
theorem dX6_init_126 : decode cX6_init 126 = .ok (.iconst (-1), 1) := dX6_init_126g.1
theorem dX6_init_127 : decode cX6_init 127 = .ok (.putfield 55, 3) := dX6_init_126g.2.1
theorem dX6_init_130 : decode cX6_init 130 = .ok (.aload_n 0, 1) := dX6_init_126g.2.2.1
theorem dX6_init_131 : decode cX6_init 131 = .ok (.iconst 1, 1) := dX6_init_126g.2.2.2.1
theorem dX6_init_132 : decode cX6_init 132 = .ok (.putfield 58, 3) := dX6_init_126g.2.2.2.2.1
theorem dX6_init_135 : decode cX6_init 135 = .ok (.aload_n 0, 1) := dX6_init_126g.2.2.2.2.2.1
theorem dX6_init_136 : decode cX6_init 136 = .ok (.iconst 0, 1) := dX6_init_126g.2.2.2.2.2.2.1
theorem dX6_init_137 : decode cX6_init 137 = .ok (.putfield 61, 3) := dX6_init_126g.2.2.2.2.2.2.2.1
theorem dX6_init_140 : decode cX6_init 140 = .ok (.aload_n 0, 1) := dX6_init_126g.2.2.2.2.2.2.2.2.1
theorem dX6_init_141 : decode cX6_init 141 = .ok (.getfield 9, 3) := dX6_init_126g.2.2.2.2.2.2.2.2.2
theorem dX6_init_144g : (decode cX6_init 144 = .ok (.iconst 1, 1)) ∧ (decode cX6_init 145 = .ok (.bipush 23, 2)) ∧ (decode cX6_init 147 = .ok (.iastore, 1)) ∧ (decode cX6_init 148 = .ok (.aload_n 0, 1)) ∧ (decode cX6_init 149 = .ok (.getfield 9, 3)) ∧ (decode cX6_init 152 = .ok (.bipush 6, 2)) ∧ (decode cX6_init 154 = .ok (.bipush 23, 2)) ∧ (decode cX6_init 156 = .ok (.iastore, 1)) ∧ (decode cX6_init 157 = .ok (.return_, 1)) := by decide +kernel
theorem dX6_init_144 : decode cX6_init 144 = .ok (.iconst 1, 1) := dX6_init_144g.1
theorem dX6_init_145 : decode cX6_init 145 = .ok (.bipush 23, 2) := dX6_init_144g.2.1
theorem dX6_init_147 : decode cX6_init 147 = .ok (.iastore, 1) := dX6_init_144g.2.2.1
theorem dX6_init_148 : decode cX6_init 148 = .ok (.aload_n 0, 1) := dX6_init_144g.2.2.2.1
theorem dX6_init_149 : decode cX6_init 149 = .ok (.getfield 9, 3) := dX6_init_144g.2.2.2.2.1
theorem dX6_init_152 : decode cX6_init 152 = .ok (.bipush 6, 2) := dX6_init_144g.2.2.2.2.2.1
theorem dX6_init_154 : decode cX6_init 154 = .ok (.bipush 23, 2) := dX6_init_144g.2.2.2.2.2.2.1
theorem dX6_init_156 : decode cX6_init 156 = .ok (.iastore, 1) := dX6_init_144g.2.2.2.2.2.2.2.1
theorem dX6_init_157 : decode cX6_init 157 = .ok (.return_, 1) := dX6_init_144g.2.2.2.2.2.2.2.2
set_option maxHeartbeats 4000000 in
set_option maxRecDepth 100000 in
theorem c_X6_init (l : Launch) (E : Nat → Nat) (D : va_G) (Gi : th_G) (h0 sz : Nat) (hn0 : Gi h0 = none) (hE : ∀ k : Nat, (32 + 8 * h0 ≤ k ∧ k < 40 + 8 * h0) ∨ 32 + 8 * sz ≤ k → E k = 0)  : Met l yX6_init (tb (.code yX6_init cX6_init 1 none)) ({ frames := 2, cells := 17, slots := 365, locals := 80 } : Room) (va_Pc [.ref h0] (fun U => U.heap.size = sz ∧ th_P E D Gi U ∧ va_at D vwCl (h0, .inr (6, [.null, .null, .null, .null, .null, .null, .null, .null, .null, .null, .int 0, .int 0, .int 0, .int 0])) U.heap ∧ th_AO U)) (QM E D Gi h0 (6, 0) sz) 17 365 (mA Gi h0 sz) := by
  refine Met.ofW (cc := cX6_init) (maxL := 1) (ret := none) (by decide) rfl ?_
  intro p e s m args below meth c s₁ B hml hv
  obtain ⟨hav, rfl, ⟨hI, hN, hK⟩, hO, hAO⟩ := hv
  have hx := B.exec
  have hb := B.bytes
  have hr := B.returns
  have hts := atoms_spec (ws := tb (.code yX6_init cX6_init 1 none)) B.pre
  have hown : s.vm.findClass RX6 = some m.cls := findClass_of_methodNamed B.named
  have hlocks := B.notSynchronized
  have hin : meth.name = "<init>" := (name_of_methodNamed B.named B.method).1
  have hl := lv_entry ([.ref h0]) (n := 1) (Nat.le_of_ble_eq_true rfl)
  rw [show entryFrame m args 1 = entryFrame m ([.ref h0] : List Value).toArray 1 from by rw [hav], lg_entry_eq]
  generalize (lg_sl ([.ref h0]) ++ List.replicate (1 - (lg_sl ([.ref h0])).length) Slot.unset).toArray = ls at hl ⊢
  have hl : lv_has ls 1 [(0, .ref h0)] := hl
  generalize hR : (headSpec (tb (.code yX6_init cX6_init 1 none)) ({ frames := 2, cells := 17, slots := 365, locals := 80 } : Room)).room = R
  have hR := hR.symm
  generalize hAe : mA Gi h0 s.heap.size = A
  have hA : ∀ q : Nat, s.heap.size ≤ q → A q := fun q h => by rw [← hAe]; exact Or.inr (Or.inr h)
  have hA0 : A h0 := by rw [← hAe]; exact Or.inr (Or.inl rfl)
  have hS : va_S A s.heap s.heap [] := va_S.rf
  obtain ⟨G, hle0, hI, hn0, hAG⟩ : ∃ G, gle Gi G ∧ th_I (okC E) D G [] s.heap ∧ G h0 = none ∧ (∀ (r : Nat) (k : th_K), G r = some k → A r) := ⟨Gi, gle.rf, hI, hn0, fun r k h => by rw [← hAe]; exact Or.inl ⟨k, h⟩⟩
  refine lv_aload_n hx hb dX6_init_0 rfl (lv_at hl 0 rfl) ?_
  refine W.objInit hx hb hown (hts _ (tb_c wd_35)) (hts _ (tb_c wd_28)) (hts _ (tb_c wd_oinit)) rfl (by rw [hml]; exact hl.1) rfl dX6_init_1 (by rw [hR]; exact Nat.le_of_ble_eq_true rfl) (by rw [hR]; exact Nat.le_of_ble_eq_true rfl) ?_
  refine W.eq (g2 := F0 m 4 ls []) rfl ?_
  refine lv_aload_n hx hb dX6_init_4 rfl (lv_at hl 0 rfl) ?_
  refine lv_bipush (v := 10) hx hb dX6_init_5 (by decide) ?_
  refine th_newi hx hb (hts _ (tb_c wd_55)) hK hI hS hA hAG 10 (by decide) (by decide) (by decide) (by rw [hR]; exact Nat.le_of_ble_eq_true rfl) (by rw [hR]; exact Nat.le_of_ble_eq_true rfl) dX6_init_7 (fun G a1 H hle hq2 hAG hqe hGne o1 hI hS => ?_)
  have hlt0 : h0 < _ := hO.lt
  have hn0 : G h0 = none := (hGne h0 (by omega)).trans hn0
  have hO := hO.kept (o1 _ hlt0)
  have hle0 := hle0.tr hle
  refine th_putF (ty := (.array .int)) hx hb hts inT6 tyX6 tyX6_ok nmX6 hown hK hO hS hA0 rfl 0 (by decide) (hts _ (tb_c wd_58)) rfl hin rfl (by decide +kernel) rfl rfl (Nat.le_of_ble_eq_true rfl) dX6_init_9 (fun H locs hO oq hS => ?_)
  have hI := th_raw hI hn0 oq
  have hO : va_at D vwCl (h0, .inr (6, [.ref a1, .null, .null, .null, .null, .null, .null, .null, .null, .null, .int 0, .int 0, .int 0, .int 0])) H := hO
  refine lv_aload_n hx hb dX6_init_12 rfl (lv_at hl 0 rfl) ?_
  refine lv_bipush (v := 96) hx hb dX6_init_13 (by decide) ?_
  refine th_newi hx hb (hts _ (tb_c wd_55)) hK hI hS hA hAG 96 (by decide) (by decide) (by decide) (by rw [hR]; exact Nat.le_of_ble_eq_true rfl) (by rw [hR]; exact Nat.le_of_ble_eq_true rfl) dX6_init_15 (fun G a3 H hle hq4 hAG hqe hGne o1 hI hS => ?_)
  have hlt0 : h0 < _ := hO.lt
  have hn0 : G h0 = none := (hGne h0 (by omega)).trans hn0
  have hO := hO.kept (o1 _ hlt0)
  have hq2 := hle _ _ hq2
  have hle0 := hle0.tr hle
  refine th_putF (ty := (.array .int)) hx hb hts inT6 tyX6 tyX6_ok nmX6 hown hK hO hS hA0 rfl 1 (by decide) (hts _ (tb_c wd_59)) rfl hin rfl (by decide +kernel) rfl rfl (Nat.le_of_ble_eq_true rfl) dX6_init_17 (fun H locs hO oq hS => ?_)
  have hI := th_raw hI hn0 oq
  have hO : va_at D vwCl (h0, .inr (6, [.ref a1, .ref a3, .null, .null, .null, .null, .null, .null, .null, .null, .int 0, .int 0, .int 0, .int 0])) H := hO
  refine lv_aload_n hx hb dX6_init_20 rfl (lv_at hl 0 rfl) ?_
  refine th_newo (ci := 4) (fs := [.int 0, .null, .int 0]) hx hb hts inT4 tyX4 tyX4_ok hown (hts _ (tb_c wd_36)) (hts _ (tb_c wd_37)) (hts _ (tb_c wd_3)) hK hI hS rfl (fun j hj => by rcases (show j = 0 ∨ j = 1 ∨ j = 2 by omega) with rfl | rfl | rfl <;> rfl) (by rw [hR]; exact Nat.le_of_ble_eq_true rfl) (by rw [hR]; exact Nat.le_of_ble_eq_true rfl) dX6_init_21 (fun a5 H hqe hnn hnsz hOn o1 hI hS => ?_)
  have hlt0 : h0 < _ := hO.lt
  have hne0 : h0 ≠ a5 := by omega
  have hO := hO.kept (o1 _ hlt0)
  have hlt_a5 : h0 < a5 := by omega
  refine lv_dup hx hb dX6_init_24 rfl ?_
  refine lv_bipush (v := 8) hx hb dX6_init_25 (by decide) ?_
  refine th_cI (As := [.int 8]) (rest := [.ref a5, .ref h0]) (n := 1) ⟨hx, hb, hml, hown, hts⟩ (c_X4_init_8 l E D G a5 H.size hnn (fun k h => hE k (by have := hS.1; omega)) ) wd_38 wd_39 wd_3 wd_40 (by decide +kernel) ⟨by rw [hR]; exact Nat.le_of_ble_eq_true rfl, by rw [hR]; exact Nat.le_of_ble_eq_true rfl⟩ hI hN hAO hK hOn hnn hnsz hS hA hAG rfl hl.1 rfl (Nat.le_of_ble_eq_true rfl) dX6_init_27 ⟨by rw [hR]; exact Nat.le_of_ble_eq_true rfl, by rw [hR]; exact Nat.le_of_ble_eq_true rfl⟩ (fun G H locs hle hq6 hAG hGne hk hI hS => ?_)
  have hlt0 : h0 < _ := hO.lt
  have hO := hO.kept (hk _ hlt0 hn0 hne0)
  have hn0 : G h0 = none := hGne _ hlt0 hn0 hne0
  have hq2 := hle _ _ hq2
  have hq4 := hle _ _ hq4
  have hle0 := hle0.tr hle
  refine th_putF (ty := (.object "NineRiver$Rows")) hx hb hts inT6 tyX6 tyX6_ok nmX6 hown hK hO hS hA0 rfl 2 (by decide) (hts _ (tb_c wd_60)) rfl hin rfl (by decide +kernel) rfl rfl (Nat.le_of_ble_eq_true rfl) dX6_init_30 (fun H locs hO oq hS => ?_)
  have hI := th_raw hI hn0 oq
  have hO : va_at D vwCl (h0, .inr (6, [.ref a1, .ref a3, .ref a5, .null, .null, .null, .null, .null, .null, .null, .int 0, .int 0, .int 0, .int 0])) H := hO
  refine lv_aload_n hx hb dX6_init_33 rfl (lv_at hl 0 rfl) ?_
  refine th_newo (ci := 4) (fs := [.int 0, .null, .int 0]) hx hb hts inT4 tyX4 tyX4_ok hown (hts _ (tb_c wd_36)) (hts _ (tb_c wd_37)) (hts _ (tb_c wd_3)) hK hI hS rfl (fun j hj => by rcases (show j = 0 ∨ j = 1 ∨ j = 2 by omega) with rfl | rfl | rfl <;> rfl) (by rw [hR]; exact Nat.le_of_ble_eq_true rfl) (by rw [hR]; exact Nat.le_of_ble_eq_true rfl) dX6_init_34 (fun a7 H hqe hnn hnsz hOn o1 hI hS => ?_)
  have hlt0 : h0 < _ := hO.lt
  have hne0 : h0 ≠ a7 := by omega
  have hO := hO.kept (o1 _ hlt0)
  have hlt_a7 : h0 < a7 := by omega
  refine lv_dup hx hb dX6_init_37 rfl ?_
  refine lv_bipush (v := 6) hx hb dX6_init_38 (by decide) ?_
  refine th_cI (As := [.int 6]) (rest := [.ref a7, .ref h0]) (n := 1) ⟨hx, hb, hml, hown, hts⟩ (c_X4_init_6 l E D G a7 H.size hnn (fun k h => hE k (by have := hS.1; omega)) ) wd_38 wd_39 wd_3 wd_40 (by decide +kernel) ⟨by rw [hR]; exact Nat.le_of_ble_eq_true rfl, by rw [hR]; exact Nat.le_of_ble_eq_true rfl⟩ hI hN hAO hK hOn hnn hnsz hS hA hAG rfl hl.1 rfl (Nat.le_of_ble_eq_true rfl) dX6_init_40 ⟨by rw [hR]; exact Nat.le_of_ble_eq_true rfl, by rw [hR]; exact Nat.le_of_ble_eq_true rfl⟩ (fun G H locs hle hq8 hAG hGne hk hI hS => ?_)
  have hlt0 : h0 < _ := hO.lt
  have hO := hO.kept (hk _ hlt0 hn0 hne0)
  have hn0 : G h0 = none := hGne _ hlt0 hn0 hne0
  have hq2 := hle _ _ hq2
  have hq4 := hle _ _ hq4
  have hq6 := hle _ _ hq6
  have hle0 := hle0.tr hle
  refine th_putF (ty := (.object "NineRiver$Rows")) hx hb hts inT6 tyX6 tyX6_ok nmX6 hown hK hO hS hA0 rfl 3 (by decide) (hts _ (tb_c wd_63)) rfl hin rfl (by decide +kernel) rfl rfl (Nat.le_of_ble_eq_true rfl) dX6_init_43 (fun H locs hO oq hS => ?_)
  have hI := th_raw hI hn0 oq
  have hO : va_at D vwCl (h0, .inr (6, [.ref a1, .ref a3, .ref a5, .ref a7, .null, .null, .null, .null, .null, .null, .int 0, .int 0, .int 0, .int 0])) H := hO
  refine lv_aload_n hx hb dX6_init_46 rfl (lv_at hl 0 rfl) ?_
  refine th_newo (ci := 4) (fs := [.int 0, .null, .int 0]) hx hb hts inT4 tyX4 tyX4_ok hown (hts _ (tb_c wd_36)) (hts _ (tb_c wd_37)) (hts _ (tb_c wd_3)) hK hI hS rfl (fun j hj => by rcases (show j = 0 ∨ j = 1 ∨ j = 2 by omega) with rfl | rfl | rfl <;> rfl) (by rw [hR]; exact Nat.le_of_ble_eq_true rfl) (by rw [hR]; exact Nat.le_of_ble_eq_true rfl) dX6_init_47 (fun a9 H hqe hnn hnsz hOn o1 hI hS => ?_)
  have hlt0 : h0 < _ := hO.lt
  have hne0 : h0 ≠ a9 := by omega
  have hO := hO.kept (o1 _ hlt0)
  have hlt_a9 : h0 < a9 := by omega
  refine lv_dup hx hb dX6_init_50 rfl ?_
  refine lv_bipush (v := 6) hx hb dX6_init_51 (by decide) ?_
  refine th_cI (As := [.int 6]) (rest := [.ref a9, .ref h0]) (n := 1) ⟨hx, hb, hml, hown, hts⟩ (c_X4_init_6 l E D G a9 H.size hnn (fun k h => hE k (by have := hS.1; omega)) ) wd_38 wd_39 wd_3 wd_40 (by decide +kernel) ⟨by rw [hR]; exact Nat.le_of_ble_eq_true rfl, by rw [hR]; exact Nat.le_of_ble_eq_true rfl⟩ hI hN hAO hK hOn hnn hnsz hS hA hAG rfl hl.1 rfl (Nat.le_of_ble_eq_true rfl) dX6_init_53 ⟨by rw [hR]; exact Nat.le_of_ble_eq_true rfl, by rw [hR]; exact Nat.le_of_ble_eq_true rfl⟩ (fun G H locs hle hq10 hAG hGne hk hI hS => ?_)
  have hlt0 : h0 < _ := hO.lt
  have hO := hO.kept (hk _ hlt0 hn0 hne0)
  have hn0 : G h0 = none := hGne _ hlt0 hn0 hne0
  have hq2 := hle _ _ hq2
  have hq4 := hle _ _ hq4
  have hq6 := hle _ _ hq6
  have hq8 := hle _ _ hq8
  have hle0 := hle0.tr hle
  refine th_putF (ty := (.object "NineRiver$Rows")) hx hb hts inT6 tyX6 tyX6_ok nmX6 hown hK hO hS hA0 rfl 4 (by decide) (hts _ (tb_c wd_66)) rfl hin rfl (by decide +kernel) rfl rfl (Nat.le_of_ble_eq_true rfl) dX6_init_56 (fun H locs hO oq hS => ?_)
  have hI := th_raw hI hn0 oq
  have hO : va_at D vwCl (h0, .inr (6, [.ref a1, .ref a3, .ref a5, .ref a7, .ref a9, .null, .null, .null, .null, .null, .int 0, .int 0, .int 0, .int 0])) H := hO
  refine lv_aload_n hx hb dX6_init_59 rfl (lv_at hl 0 rfl) ?_
  refine th_newo (ci := 4) (fs := [.int 0, .null, .int 0]) hx hb hts inT4 tyX4 tyX4_ok hown (hts _ (tb_c wd_36)) (hts _ (tb_c wd_37)) (hts _ (tb_c wd_3)) hK hI hS rfl (fun j hj => by rcases (show j = 0 ∨ j = 1 ∨ j = 2 by omega) with rfl | rfl | rfl <;> rfl) (by rw [hR]; exact Nat.le_of_ble_eq_true rfl) (by rw [hR]; exact Nat.le_of_ble_eq_true rfl) dX6_init_60 (fun a11 H hqe hnn hnsz hOn o1 hI hS => ?_)
  have hlt0 : h0 < _ := hO.lt
  have hne0 : h0 ≠ a11 := by omega
  have hO := hO.kept (o1 _ hlt0)
  have hlt_a11 : h0 < a11 := by omega
  refine lv_dup hx hb dX6_init_63 rfl ?_
  refine lv_bipush (v := 16) hx hb dX6_init_64 (by decide) ?_
  refine th_cI (As := [.int 16]) (rest := [.ref a11, .ref h0]) (n := 1) ⟨hx, hb, hml, hown, hts⟩ (c_X4_init_16 l E D G a11 H.size hnn (fun k h => hE k (by have := hS.1; omega)) ) wd_38 wd_39 wd_3 wd_40 (by decide +kernel) ⟨by rw [hR]; exact Nat.le_of_ble_eq_true rfl, by rw [hR]; exact Nat.le_of_ble_eq_true rfl⟩ hI hN hAO hK hOn hnn hnsz hS hA hAG rfl hl.1 rfl (Nat.le_of_ble_eq_true rfl) dX6_init_66 ⟨by rw [hR]; exact Nat.le_of_ble_eq_true rfl, by rw [hR]; exact Nat.le_of_ble_eq_true rfl⟩ (fun G H locs hle hq12 hAG hGne hk hI hS => ?_)
  have hlt0 : h0 < _ := hO.lt
  have hO := hO.kept (hk _ hlt0 hn0 hne0)
  have hn0 : G h0 = none := hGne _ hlt0 hn0 hne0
  have hq2 := hle _ _ hq2
  have hq4 := hle _ _ hq4
  have hq6 := hle _ _ hq6
  have hq8 := hle _ _ hq8
  have hq10 := hle _ _ hq10
  have hle0 := hle0.tr hle
  refine th_putF (ty := (.object "NineRiver$Rows")) hx hb hts inT6 tyX6 tyX6_ok nmX6 hown hK hO hS hA0 rfl 5 (by decide) (hts _ (tb_c wd_69)) rfl hin rfl (by decide +kernel) rfl rfl (Nat.le_of_ble_eq_true rfl) dX6_init_69 (fun H locs hO oq hS => ?_)
  have hI := th_raw hI hn0 oq
  have hO : va_at D vwCl (h0, .inr (6, [.ref a1, .ref a3, .ref a5, .ref a7, .ref a9, .ref a11, .null, .null, .null, .null, .int 0, .int 0, .int 0, .int 0])) H := hO
  refine lv_aload_n hx hb dX6_init_72 rfl (lv_at hl 0 rfl) ?_
  refine th_newo (ci := 4) (fs := [.int 0, .null, .int 0]) hx hb hts inT4 tyX4 tyX4_ok hown (hts _ (tb_c wd_36)) (hts _ (tb_c wd_37)) (hts _ (tb_c wd_3)) hK hI hS rfl (fun j hj => by rcases (show j = 0 ∨ j = 1 ∨ j = 2 by omega) with rfl | rfl | rfl <;> rfl) (by rw [hR]; exact Nat.le_of_ble_eq_true rfl) (by rw [hR]; exact Nat.le_of_ble_eq_true rfl) dX6_init_73 (fun a13 H hqe hnn hnsz hOn o1 hI hS => ?_)
  have hlt0 : h0 < _ := hO.lt
  have hne0 : h0 ≠ a13 := by omega
  have hO := hO.kept (o1 _ hlt0)
  have hlt_a13 : h0 < a13 := by omega
  refine lv_dup hx hb dX6_init_76 rfl ?_
  refine lv_bipush (v := 10) hx hb dX6_init_77 (by decide) ?_
  refine th_cI (As := [.int 10]) (rest := [.ref a13, .ref h0]) (n := 1) ⟨hx, hb, hml, hown, hts⟩ (c_X4_init_10T l E D G a13 H.size hnn (fun k h => hE k (by have := hS.1; omega)) ) wd_38 wd_39 wd_3 wd_40 (by decide +kernel) ⟨by rw [hR]; exact Nat.le_of_ble_eq_true rfl, by rw [hR]; exact Nat.le_of_ble_eq_true rfl⟩ hI hN hAO hK hOn hnn hnsz hS hA hAG rfl hl.1 rfl (Nat.le_of_ble_eq_true rfl) dX6_init_79 ⟨by rw [hR]; exact Nat.le_of_ble_eq_true rfl, by rw [hR]; exact Nat.le_of_ble_eq_true rfl⟩ (fun G H locs hle hq14 hAG hGne hk hI hS => ?_)
  have hlt0 : h0 < _ := hO.lt
  have hO := hO.kept (hk _ hlt0 hn0 hne0)
  have hn0 : G h0 = none := hGne _ hlt0 hn0 hne0
  have hq2 := hle _ _ hq2
  have hq4 := hle _ _ hq4
  have hq6 := hle _ _ hq6
  have hq8 := hle _ _ hq8
  have hq10 := hle _ _ hq10
  have hq12 := hle _ _ hq12
  have hle0 := hle0.tr hle
  refine th_putF (ty := (.object "NineRiver$Rows")) hx hb hts inT6 tyX6 tyX6_ok nmX6 hown hK hO hS hA0 rfl 6 (by decide) (hts _ (tb_c wd_72)) rfl hin rfl (by decide +kernel) rfl rfl (Nat.le_of_ble_eq_true rfl) dX6_init_82 (fun H locs hO oq hS => ?_)
  have hI := th_raw hI hn0 oq
  have hO : va_at D vwCl (h0, .inr (6, [.ref a1, .ref a3, .ref a5, .ref a7, .ref a9, .ref a11, .ref a13, .null, .null, .null, .int 0, .int 0, .int 0, .int 0])) H := hO
  refine lv_aload_n hx hb dX6_init_85 rfl (lv_at hl 0 rfl) ?_
  refine th_newo (ci := 4) (fs := [.int 0, .null, .int 0]) hx hb hts inT4 tyX4 tyX4_ok hown (hts _ (tb_c wd_36)) (hts _ (tb_c wd_37)) (hts _ (tb_c wd_3)) hK hI hS rfl (fun j hj => by rcases (show j = 0 ∨ j = 1 ∨ j = 2 by omega) with rfl | rfl | rfl <;> rfl) (by rw [hR]; exact Nat.le_of_ble_eq_true rfl) (by rw [hR]; exact Nat.le_of_ble_eq_true rfl) dX6_init_86 (fun a15 H hqe hnn hnsz hOn o1 hI hS => ?_)
  have hlt0 : h0 < _ := hO.lt
  have hne0 : h0 ≠ a15 := by omega
  have hO := hO.kept (o1 _ hlt0)
  have hlt_a15 : h0 < a15 := by omega
  refine lv_dup hx hb dX6_init_89 rfl ?_
  refine lv_bipush (v := 6) hx hb dX6_init_90 (by decide) ?_
  refine th_cI (As := [.int 6]) (rest := [.ref a15, .ref h0]) (n := 1) ⟨hx, hb, hml, hown, hts⟩ (c_X4_init_6 l E D G a15 H.size hnn (fun k h => hE k (by have := hS.1; omega)) ) wd_38 wd_39 wd_3 wd_40 (by decide +kernel) ⟨by rw [hR]; exact Nat.le_of_ble_eq_true rfl, by rw [hR]; exact Nat.le_of_ble_eq_true rfl⟩ hI hN hAO hK hOn hnn hnsz hS hA hAG rfl hl.1 rfl (Nat.le_of_ble_eq_true rfl) dX6_init_92 ⟨by rw [hR]; exact Nat.le_of_ble_eq_true rfl, by rw [hR]; exact Nat.le_of_ble_eq_true rfl⟩ (fun G H locs hle hq16 hAG hGne hk hI hS => ?_)
  have hlt0 : h0 < _ := hO.lt
  have hO := hO.kept (hk _ hlt0 hn0 hne0)
  have hn0 : G h0 = none := hGne _ hlt0 hn0 hne0
  have hq2 := hle _ _ hq2
  have hq4 := hle _ _ hq4
  have hq6 := hle _ _ hq6
  have hq8 := hle _ _ hq8
  have hq10 := hle _ _ hq10
  have hq12 := hle _ _ hq12
  have hq14 := hle _ _ hq14
  have hle0 := hle0.tr hle
  refine th_putF (ty := (.object "NineRiver$Rows")) hx hb hts inT6 tyX6 tyX6_ok nmX6 hown hK hO hS hA0 rfl 7 (by decide) (hts _ (tb_c wd_75)) rfl hin rfl (by decide +kernel) rfl rfl (Nat.le_of_ble_eq_true rfl) dX6_init_95 (fun H locs hO oq hS => ?_)
  have hI := th_raw hI hn0 oq
  have hO : va_at D vwCl (h0, .inr (6, [.ref a1, .ref a3, .ref a5, .ref a7, .ref a9, .ref a11, .ref a13, .ref a15, .null, .null, .int 0, .int 0, .int 0, .int 0])) H := hO
  refine lv_aload_n hx hb dX6_init_98 rfl (lv_at hl 0 rfl) ?_
  refine th_newo (ci := 4) (fs := [.int 0, .null, .int 0]) hx hb hts inT4 tyX4 tyX4_ok hown (hts _ (tb_c wd_36)) (hts _ (tb_c wd_37)) (hts _ (tb_c wd_3)) hK hI hS rfl (fun j hj => by rcases (show j = 0 ∨ j = 1 ∨ j = 2 by omega) with rfl | rfl | rfl <;> rfl) (by rw [hR]; exact Nat.le_of_ble_eq_true rfl) (by rw [hR]; exact Nat.le_of_ble_eq_true rfl) dX6_init_99 (fun a17 H hqe hnn hnsz hOn o1 hI hS => ?_)
  have hlt0 : h0 < _ := hO.lt
  have hne0 : h0 ≠ a17 := by omega
  have hO := hO.kept (o1 _ hlt0)
  have hlt_a17 : h0 < a17 := by omega
  refine lv_dup hx hb dX6_init_102 rfl ?_
  refine lv_bipush (v := 6) hx hb dX6_init_103 (by decide) ?_
  refine th_cI (As := [.int 6]) (rest := [.ref a17, .ref h0]) (n := 1) ⟨hx, hb, hml, hown, hts⟩ (c_X4_init_6 l E D G a17 H.size hnn (fun k h => hE k (by have := hS.1; omega)) ) wd_38 wd_39 wd_3 wd_40 (by decide +kernel) ⟨by rw [hR]; exact Nat.le_of_ble_eq_true rfl, by rw [hR]; exact Nat.le_of_ble_eq_true rfl⟩ hI hN hAO hK hOn hnn hnsz hS hA hAG rfl hl.1 rfl (Nat.le_of_ble_eq_true rfl) dX6_init_105 ⟨by rw [hR]; exact Nat.le_of_ble_eq_true rfl, by rw [hR]; exact Nat.le_of_ble_eq_true rfl⟩ (fun G H locs hle hq18 hAG hGne hk hI hS => ?_)
  have hlt0 : h0 < _ := hO.lt
  have hO := hO.kept (hk _ hlt0 hn0 hne0)
  have hn0 : G h0 = none := hGne _ hlt0 hn0 hne0
  have hq2 := hle _ _ hq2
  have hq4 := hle _ _ hq4
  have hq6 := hle _ _ hq6
  have hq8 := hle _ _ hq8
  have hq10 := hle _ _ hq10
  have hq12 := hle _ _ hq12
  have hq14 := hle _ _ hq14
  have hq16 := hle _ _ hq16
  have hle0 := hle0.tr hle
  refine th_putF (ty := (.object "NineRiver$Rows")) hx hb hts inT6 tyX6 tyX6_ok nmX6 hown hK hO hS hA0 rfl 8 (by decide) (hts _ (tb_c wd_78)) rfl hin rfl (by decide +kernel) rfl rfl (Nat.le_of_ble_eq_true rfl) dX6_init_108 (fun H locs hO oq hS => ?_)
  have hI := th_raw hI hn0 oq
  have hO : va_at D vwCl (h0, .inr (6, [.ref a1, .ref a3, .ref a5, .ref a7, .ref a9, .ref a11, .ref a13, .ref a15, .ref a17, .null, .int 0, .int 0, .int 0, .int 0])) H := hO
  refine lv_aload_n hx hb dX6_init_111 rfl (lv_at hl 0 rfl) ?_
  refine lv_bipush (v := 6) hx hb dX6_init_112 (by decide) ?_
  refine th_newq (t := 2) hx hb hown (hts _ (tb_c wd_56)) (va_AO.use hAO.1) hK 4 rfl hI hS hA hAG 6 (by decide) (by decide) (by decide) (by rw [hR]; exact Nat.le_of_ble_eq_true rfl) (by rw [hR]; exact Nat.le_of_ble_eq_true rfl) dX6_init_114 (fun _ => ok_2 (fun j q _ h => by cases h)) (fun G a19 H hle hq20 hAG hqe hGne o1 hI hS => ?_)
  have hlt0 : h0 < _ := hO.lt
  have hn0 : G h0 = none := (hGne h0 (by omega)).trans hn0
  have hO := hO.kept (o1 _ hlt0)
  have hq2 := hle _ _ hq2
  have hq4 := hle _ _ hq4
  have hq6 := hle _ _ hq6
  have hq8 := hle _ _ hq8
  have hq10 := hle _ _ hq10
  have hq12 := hle _ _ hq12
  have hq14 := hle _ _ hq14
  have hq16 := hle _ _ hq16
  have hq18 := hle _ _ hq18
  have hle0 := hle0.tr hle
  refine th_putF (ty := (.array (.object "NineRiver$Law"))) hx hb hts inT6 tyX6 tyX6_ok nmX6 hown hK hO hS hA0 rfl 9 (by decide) (hts _ (tb_c wd_81)) rfl hin rfl (by decide +kernel) rfl rfl (Nat.le_of_ble_eq_true rfl) dX6_init_117 (fun H locs hO oq hS => ?_)
  have hI := th_raw hI hn0 oq
  have hO : va_at D vwCl (h0, .inr (6, [.ref a1, .ref a3, .ref a5, .ref a7, .ref a9, .ref a11, .ref a13, .ref a15, .ref a17, .ref a19, .int 0, .int 0, .int 0, .int 0])) H := hO
  refine lv_aload_n hx hb dX6_init_120 rfl (lv_at hl 0 rfl) ?_
  refine lv_iconst (v := 0) hx hb dX6_init_121 (by decide) ?_
  refine th_put (ty := .int) hx hb hts inT6 tyX6 tyX6_ok nmX6 hown hK hO hS hA0 rfl 10 (by decide) (hts _ (tb_c wd_82)) rfl rfl (by decide +kernel) rfl rfl (Nat.le_of_ble_eq_true rfl) dX6_init_122 (fun H locs hO oq hS => ?_)
  have hI := th_raw hI hn0 oq
  have hO : va_at D vwCl (h0, .inr (6, [.ref a1, .ref a3, .ref a5, .ref a7, .ref a9, .ref a11, .ref a13, .ref a15, .ref a17, .ref a19, .int 0, .int 0, .int 0, .int 0])) H := hO
  refine lv_aload_n hx hb dX6_init_125 rfl (lv_at hl 0 rfl) ?_
  refine lv_iconst (v := (-1)) hx hb dX6_init_126 (by decide) ?_
  refine th_put (ty := .int) hx hb hts inT6 tyX6 tyX6_ok nmX6 hown hK hO hS hA0 rfl 11 (by decide) (hts _ (tb_c wd_84)) rfl rfl (by decide +kernel) rfl rfl (Nat.le_of_ble_eq_true rfl) dX6_init_127 (fun H locs hO oq hS => ?_)
  have hI := th_raw hI hn0 oq
  have hO : va_at D vwCl (h0, .inr (6, [.ref a1, .ref a3, .ref a5, .ref a7, .ref a9, .ref a11, .ref a13, .ref a15, .ref a17, .ref a19, .int 0, .int (-1), .int 0, .int 0])) H := hO
  refine lv_aload_n hx hb dX6_init_130 rfl (lv_at hl 0 rfl) ?_
  refine lv_iconst (v := 1) hx hb dX6_init_131 (by decide) ?_
  refine th_put (ty := .int) hx hb hts inT6 tyX6 tyX6_ok nmX6 hown hK hO hS hA0 rfl 12 (by decide) (hts _ (tb_c wd_86)) rfl rfl (by decide +kernel) rfl rfl (Nat.le_of_ble_eq_true rfl) dX6_init_132 (fun H locs hO oq hS => ?_)
  have hI := th_raw hI hn0 oq
  have hO : va_at D vwCl (h0, .inr (6, [.ref a1, .ref a3, .ref a5, .ref a7, .ref a9, .ref a11, .ref a13, .ref a15, .ref a17, .ref a19, .int 0, .int (-1), .int 1, .int 0])) H := hO
  refine lv_aload_n hx hb dX6_init_135 rfl (lv_at hl 0 rfl) ?_
  refine lv_iconst (v := 0) hx hb dX6_init_136 (by decide) ?_
  refine th_put (ty := .int) hx hb hts inT6 tyX6 tyX6_ok nmX6 hown hK hO hS hA0 rfl 13 (by decide) (hts _ (tb_c wd_90)) rfl rfl (by decide +kernel) rfl rfl (Nat.le_of_ble_eq_true rfl) dX6_init_137 (fun H locs hO oq hS => ?_)
  have hI := th_raw hI hn0 oq
  have hO : va_at D vwCl (h0, .inr (6, [.ref a1, .ref a3, .ref a5, .ref a7, .ref a9, .ref a11, .ref a13, .ref a15, .ref a17, .ref a19, .int 0, .int (-1), .int 1, .int 0])) H := hO
  refine lv_aload_n hx hb dX6_init_140 rfl (lv_at hl 0 rfl) ?_
  refine th_get hx hb hts inT6 hown hK hO rfl 0 (by decide) (hts _ (tb_c wd_58)) rfl rfl dX6_init_141 ?_
  refine lv_iconst (v := 1) hx hb dX6_init_144 (by decide) ?_
  refine lv_bipush (v := 23) hx hb dX6_init_145 (by decide) ?_
  obtain ⟨_, hA21⟩ := op_0 hI hq2 List.not_mem_nil
  refine th_iast hx hb hK hA21 0 rfl hS (hAG _ _ hq2) (iv_in (X := (1)) (by decide) (by omega) (by omega)) dX6_init_147 (fun H locs hA21 oq hS => ?_)
  have hI := th_I.put hI hq2 hA21 ok_0 oq
  have hO := hO.kept (oq _ (th_neN hn0 hq2))
  refine lv_aload_n hx hb dX6_init_148 rfl (lv_at hl 0 rfl) ?_
  refine th_get hx hb hts inT6 hown hK hO rfl 0 (by decide) (hts _ (tb_c wd_58)) rfl rfl dX6_init_149 ?_
  refine lv_bipush (v := 6) hx hb dX6_init_152 (by decide) ?_
  refine lv_bipush (v := 23) hx hb dX6_init_154 (by decide) ?_
  obtain ⟨_, hA22⟩ := op_0 hI hq2 List.not_mem_nil
  refine th_iast hx hb hK hA22 0 rfl hS (hAG _ _ hq2) (iv_in (X := (6)) (by decide) (by omega) (by omega)) dX6_init_156 (fun H locs hA22 oq hS => ?_)
  have hI := th_I.put hI hq2 hA22 ok_0 oq
  have hO := hO.kept (oq _ (th_neN hn0 hq2))
  have hO : va_at D vwCl (h0, .inr (6, [.ref a1, .ref a3, .ref a5, .ref a7, .ref a9, .ref a11, .ref a13, .ref a15, .ref a17, .ref a19, .int 0, .int (-1), .int 1, .int 0])) H := hO
  have hI := th_type (k := (6, 0)) hI hn0 hO (ok_6 (gx_le hn0 _ _ hq2) (gx_le hn0 _ _ hq4) (gx_le hn0 _ _ hq6) (gx_le hn0 _ _ hq8) (gx_le hn0 _ _ hq10) (gx_le hn0 _ _ hq12) (gx_le hn0 _ _ hq14) (gx_le hn0 _ _ hq16) (gx_le hn0 _ _ hq18) (gx_le hn0 _ _ hq20) ⟨by decide, by decide⟩ (⟨Or.inl (hE _ (Or.inl ⟨by omega, by omega⟩)), hlt_a13⟩))
  refine W.widen (k := 17) (n := 365) (Nat.le_of_ble_eq_true rfl) (Nat.le_of_ble_eq_true rfl) ?_
  rw [← hAe] at hS ⊢
  exact W.vret hx hb hr (fun t ht hW => ⟨⟨gx G h0 (6, 0), rfl, ⟨hle0.tr (gx_le hn0), gx_a, fun r k hr => mA_new (hAe ▸ hAG) hle0 hr⟩, by rw [ht]; exact hI, hN.warm hW, va_K.moved hW.alike hK⟩, hS.F ht⟩) hS.2.2 dX6_init_157
theorem dX0_init_0g : (decode cX0_init 0 = .ok (.aload_n 0, 1)) ∧ (decode cX0_init 1 = .ok (.invokespecial 3, 3)) ∧ (decode cX0_init 4 = .ok (.aload_n 0, 1)) ∧ (decode cX0_init 5 = .ok (.bipush 9, 2)) ∧ (decode cX0_init 7 = .ok (.newarray .int, 2)) ∧ (decode cX0_init 9 = .ok (.putfield 9, 3)) ∧ (decode cX0_init 12 = .ok (.aload_n 0, 1)) ∧ (decode cX0_init 13 = .ok (.bipush 64, 2)) ∧ (decode cX0_init 15 = .ok (.newarray .long, 2)) ∧ (decode cX0_init 17 = .ok (.putfield 15, 3)) := by decide +kernel
theorem dX0_init_0 : decode cX0_init 0 = .ok (.aload_n 0, 1) := dX0_init_0g.1
theorem dX0_init_1 : decode cX0_init 1 = .ok (.invokespecial 3, 3) := dX0_init_0g.2.1
theorem dX0_init_4 : decode cX0_init 4 = .ok (.aload_n 0, 1) := dX0_init_0g.2.2.1
theorem dX0_init_5 : decode cX0_init 5 = .ok (.bipush 9, 2) := dX0_init_0g.2.2.2.1
theorem dX0_init_7 : decode cX0_init 7 = .ok (.newarray .int, 2) := dX0_init_0g.2.2.2.2.1
theorem dX0_init_9 : decode cX0_init 9 = .ok (.putfield 9, 3) := dX0_init_0g.2.2.2.2.2.1
theorem dX0_init_12 : decode cX0_init 12 = .ok (.aload_n 0, 1) := dX0_init_0g.2.2.2.2.2.2.1
theorem dX0_init_13 : decode cX0_init 13 = .ok (.bipush 64, 2) := dX0_init_0g.2.2.2.2.2.2.2.1
theorem dX0_init_15 : decode cX0_init 15 = .ok (.newarray .long, 2) := dX0_init_0g.2.2.2.2.2.2.2.2.1
theorem dX0_init_17 : decode cX0_init 17 = .ok (.putfield 15, 3) := dX0_init_0g.2.2.2.2.2.2.2.2.2
theorem dX0_init_20g : (decode cX0_init 20 = .ok (.aload_n 0, 1)) ∧ (decode cX0_init 21 = .ok (.iconst 1, 1)) ∧ (decode cX0_init 22 = .ok (.putfield 19, 3)) ∧ (decode cX0_init 25 = .ok (.return_, 1)) := by decide +kernel
theorem dX0_init_20 : decode cX0_init 20 = .ok (.aload_n 0, 1) := dX0_init_20g.1
theorem dX0_init_21 : decode cX0_init 21 = .ok (.iconst 1, 1) := dX0_init_20g.2.1
theorem dX0_init_22 : decode cX0_init 22 = .ok (.putfield 19, 3) := dX0_init_20g.2.2.1
theorem dX0_init_25 : decode cX0_init 25 = .ok (.return_, 1) := dX0_init_20g.2.2.2
set_option maxHeartbeats 4000000 in
set_option maxRecDepth 100000 in
theorem c_X0_init (l : Launch) (E : Nat → Nat) (D : va_G) (Gi : th_G) (h0 sz : Nat) (hn0 : Gi h0 = none) (hE : ∀ k : Nat, (32 + 8 * h0 ≤ k ∧ k < 40 + 8 * h0) ∨ 32 + 8 * sz ≤ k → E k = 0)  : Met l yX0_init (tb (.code yX0_init cX0_init 1 none)) ({ frames := 1, cells := 2, slots := 73, locals := 40 } : Room) (va_Pc [.ref h0] (fun U => U.heap.size = sz ∧ th_P E D Gi U ∧ va_at D vwCl (h0, .inr (0, [.null, .null, .int 0])) U.heap ∧ th_AO U)) (QM E D Gi h0 (8, 0) sz) 2 73 (mA Gi h0 sz) := by
  refine Met.ofW (cc := cX0_init) (maxL := 1) (ret := none) (by decide) rfl ?_
  intro p e s m args below meth c s₁ B hml hv
  obtain ⟨hav, rfl, ⟨hI, hN, hK⟩, hO, hAO⟩ := hv
  have hx := B.exec
  have hb := B.bytes
  have hr := B.returns
  have hts := atoms_spec (ws := tb (.code yX0_init cX0_init 1 none)) B.pre
  have hown : s.vm.findClass RX0 = some m.cls := findClass_of_methodNamed B.named
  have hlocks := B.notSynchronized
  have hin : meth.name = "<init>" := (name_of_methodNamed B.named B.method).1
  have hl := lv_entry ([.ref h0]) (n := 1) (Nat.le_of_ble_eq_true rfl)
  rw [show entryFrame m args 1 = entryFrame m ([.ref h0] : List Value).toArray 1 from by rw [hav], lg_entry_eq]
  generalize (lg_sl ([.ref h0]) ++ List.replicate (1 - (lg_sl ([.ref h0])).length) Slot.unset).toArray = ls at hl ⊢
  have hl : lv_has ls 1 [(0, .ref h0)] := hl
  generalize hR : (headSpec (tb (.code yX0_init cX0_init 1 none)) ({ frames := 1, cells := 2, slots := 73, locals := 40 } : Room)).room = R
  have hR := hR.symm
  generalize hAe : mA Gi h0 s.heap.size = A
  have hA : ∀ q : Nat, s.heap.size ≤ q → A q := fun q h => by rw [← hAe]; exact Or.inr (Or.inr h)
  have hA0 : A h0 := by rw [← hAe]; exact Or.inr (Or.inl rfl)
  have hS : va_S A s.heap s.heap [] := va_S.rf
  obtain ⟨G, hle0, hI, hn0, hAG⟩ : ∃ G, gle Gi G ∧ th_I (okC E) D G [] s.heap ∧ G h0 = none ∧ (∀ (r : Nat) (k : th_K), G r = some k → A r) := ⟨Gi, gle.rf, hI, hn0, fun r k h => by rw [← hAe]; exact Or.inl ⟨k, h⟩⟩
  refine lv_aload_n hx hb dX0_init_0 rfl (lv_at hl 0 rfl) ?_
  refine W.objInit hx hb hown (hts _ (tb_c wd_177)) (hts _ (tb_c wd_28)) (hts _ (tb_c wd_oinit)) rfl (by rw [hml]; exact hl.1) rfl dX0_init_1 (by rw [hR]; exact Nat.le_of_ble_eq_true rfl) (by rw [hR]; exact Nat.le_of_ble_eq_true rfl) ?_
  refine W.eq (g2 := F0 m 4 ls []) rfl ?_
  refine lv_aload_n hx hb dX0_init_4 rfl (lv_at hl 0 rfl) ?_
  refine lv_bipush (v := 9) hx hb dX0_init_5 (by decide) ?_
  refine th_newi hx hb (hts _ (tb_c wd_55)) hK hI hS hA hAG 9 (by decide) (by decide) (by decide) (by rw [hR]; exact Nat.le_of_ble_eq_true rfl) (by rw [hR]; exact Nat.le_of_ble_eq_true rfl) dX0_init_7 (fun G a1 H hle hq2 hAG hqe hGne o1 hI hS => ?_)
  have hlt0 : h0 < _ := hO.lt
  have hn0 : G h0 = none := (hGne h0 (by omega)).trans hn0
  have hO := hO.kept (o1 _ hlt0)
  have hle0 := hle0.tr hle
  refine th_putF (ty := (.array .int)) hx hb hts inT0 tyX0 tyX0_ok nmX0 hown hK hO hS hA0 rfl 0 (by decide) (hts _ (tb_c wd_178)) rfl hin rfl (by decide +kernel) rfl rfl (Nat.le_of_ble_eq_true rfl) dX0_init_9 (fun H locs hO oq hS => ?_)
  have hI := th_raw hI hn0 oq
  have hO : va_at D vwCl (h0, .inr (0, [.ref a1, .null, .int 0])) H := hO
  refine lv_aload_n hx hb dX0_init_12 rfl (lv_at hl 0 rfl) ?_
  refine lv_bipush (v := 64) hx hb dX0_init_13 (by decide) ?_
  refine th_newl hx hb (hts _ (tb_c wd_188)) hK hI hS hA hAG 64 (by decide) (by decide) (by decide) (by rw [hR]; exact Nat.le_of_ble_eq_true rfl) (by rw [hR]; exact Nat.le_of_ble_eq_true rfl) dX0_init_15 (fun G a3 H hle hq4 hAG hqe hGne o1 hI hS => ?_)
  have hlt0 : h0 < _ := hO.lt
  have hn0 : G h0 = none := (hGne h0 (by omega)).trans hn0
  have hO := hO.kept (o1 _ hlt0)
  have hq2 := hle _ _ hq2
  have hle0 := hle0.tr hle
  refine th_putF (ty := (.array .long)) hx hb hts inT0 tyX0 tyX0_ok nmX0 hown hK hO hS hA0 rfl 1 (by decide) (hts _ (tb_c wd_179)) rfl hin rfl (by decide +kernel) rfl rfl (Nat.le_of_ble_eq_true rfl) dX0_init_17 (fun H locs hO oq hS => ?_)
  have hI := th_raw hI hn0 oq
  have hO : va_at D vwCl (h0, .inr (0, [.ref a1, .ref a3, .int 0])) H := hO
  refine lv_aload_n hx hb dX0_init_20 rfl (lv_at hl 0 rfl) ?_
  refine lv_iconst (v := 1) hx hb dX0_init_21 (by decide) ?_
  refine th_put (ty := .boolean) hx hb hts inT0 tyX0 tyX0_ok nmX0 hown hK hO hS hA0 rfl 2 (by decide) (hts _ (tb_c wd_180)) rfl rfl (by decide +kernel) (by decide) rfl (Nat.le_of_ble_eq_true rfl) dX0_init_22 (fun H locs hO oq hS => ?_)
  have hI := th_raw hI hn0 oq
  have hO : va_at D vwCl (h0, .inr (0, [.ref a1, .ref a3, .int 1])) H := hO
  have hO : va_at D vwCl (h0, .inr (0, [.ref a1, .ref a3, .int 1])) H := hO
  have hI := th_type (k := (8, 0)) hI hn0 hO (ok_8 (gx_le hn0 _ _ hq2) (gx_le hn0 _ _ hq4))
  refine W.widen (k := 2) (n := 73) (Nat.le_of_ble_eq_true rfl) (Nat.le_of_ble_eq_true rfl) ?_
  rw [← hAe] at hS ⊢
  exact W.vret hx hb hr (fun t ht hW => ⟨⟨gx G h0 (8, 0), rfl, ⟨hle0.tr (gx_le hn0), gx_a, fun r k hr => mA_new (hAe ▸ hAG) hle0 hr⟩, by rw [ht]; exact hI, hN.warm hW, va_K.moved hW.alike hK⟩, hS.F ht⟩) hS.2.2 dX0_init_25
theorem dX3_init_0g : (decode cX3_init 0 = .ok (.aload_n 0, 1)) ∧ (decode cX3_init 1 = .ok (.invokespecial 5, 3)) ∧ (decode cX3_init 4 = .ok (.aload_n 0, 1)) ∧ (decode cX3_init 5 = .ok (.bipush 12, 2)) ∧ (decode cX3_init 7 = .ok (.newarray .int, 2)) ∧ (decode cX3_init 9 = .ok (.putfield 11, 3)) ∧ (decode cX3_init 12 = .ok (.aload_n 0, 1)) ∧ (decode cX3_init 13 = .ok (.bipush 25, 2)) ∧ (decode cX3_init 15 = .ok (.newarray .int, 2)) ∧ (decode cX3_init 17 = .ok (.putfield 15, 3)) := by decide +kernel
theorem dX3_init_0 : decode cX3_init 0 = .ok (.aload_n 0, 1) := dX3_init_0g.1
theorem dX3_init_1 : decode cX3_init 1 = .ok (.invokespecial 5, 3) := dX3_init_0g.2.1
theorem dX3_init_4 : decode cX3_init 4 = .ok (.aload_n 0, 1) := dX3_init_0g.2.2.1
theorem dX3_init_5 : decode cX3_init 5 = .ok (.bipush 12, 2) := dX3_init_0g.2.2.2.1
theorem dX3_init_7 : decode cX3_init 7 = .ok (.newarray .int, 2) := dX3_init_0g.2.2.2.2.1
theorem dX3_init_9 : decode cX3_init 9 = .ok (.putfield 11, 3) := dX3_init_0g.2.2.2.2.2.1
theorem dX3_init_12 : decode cX3_init 12 = .ok (.aload_n 0, 1) := dX3_init_0g.2.2.2.2.2.2.1
theorem dX3_init_13 : decode cX3_init 13 = .ok (.bipush 25, 2) := dX3_init_0g.2.2.2.2.2.2.2.1
theorem dX3_init_15 : decode cX3_init 15 = .ok (.newarray .int, 2) := dX3_init_0g.2.2.2.2.2.2.2.2.1
theorem dX3_init_17 : decode cX3_init 17 = .ok (.putfield 15, 3) := dX3_init_0g.2.2.2.2.2.2.2.2.2
theorem dX3_init_20g : (decode cX3_init 20 = .ok (.aload_n 0, 1)) ∧ (decode cX3_init 21 = .ok (.sipush 400, 3)) ∧ (decode cX3_init 24 = .ok (.newarray .int, 2)) ∧ (decode cX3_init 26 = .ok (.putfield 18, 3)) ∧ (decode cX3_init 29 = .ok (.aload_n 0, 1)) ∧ (decode cX3_init 30 = .ok (.sipush 401, 3)) ∧ (decode cX3_init 33 = .ok (.newarray .int, 2)) ∧ (decode cX3_init 35 = .ok (.putfield 21, 3)) ∧ (decode cX3_init 38 = .ok (.aload_n 0, 1)) ∧ (decode cX3_init 39 = .ok (.sipush 401, 3)) := by decide +kernel
theorem dX3_init_20 : decode cX3_init 20 = .ok (.aload_n 0, 1) := dX3_init_20g.1
theorem dX3_init_21 : decode cX3_init 21 = .ok (.sipush 400, 3) := dX3_init_20g.2.1
theorem dX3_init_24 : decode cX3_init 24 = .ok (.newarray .int, 2) := dX3_init_20g.2.2.1
theorem dX3_init_26 : decode cX3_init 26 = .ok (.putfield 18, 3) := dX3_init_20g.2.2.2.1
theorem dX3_init_29 : decode cX3_init 29 = .ok (.aload_n 0, 1) := dX3_init_20g.2.2.2.2.1
theorem dX3_init_30 : decode cX3_init 30 = .ok (.sipush 401, 3) := dX3_init_20g.2.2.2.2.2.1
theorem dX3_init_33 : decode cX3_init 33 = .ok (.newarray .int, 2) := dX3_init_20g.2.2.2.2.2.2.1
theorem dX3_init_35 : decode cX3_init 35 = .ok (.putfield 21, 3) := dX3_init_20g.2.2.2.2.2.2.2.1
theorem dX3_init_38 : decode cX3_init 38 = .ok (.aload_n 0, 1) := dX3_init_20g.2.2.2.2.2.2.2.2.1
theorem dX3_init_39 : decode cX3_init 39 = .ok (.sipush 401, 3) := dX3_init_20g.2.2.2.2.2.2.2.2.2
theorem dX3_init_42g : (decode cX3_init 42 = .ok (.newarray .int, 2)) ∧ (decode cX3_init 44 = .ok (.putfield 24, 3)) ∧ (decode cX3_init 47 = .ok (.aload_n 0, 1)) ∧ (decode cX3_init 48 = .ok (.sipush 401, 3)) ∧ (decode cX3_init 51 = .ok (.newarray .int, 2)) ∧ (decode cX3_init 53 = .ok (.putfield 27, 3)) ∧ (decode cX3_init 56 = .ok (.aload_n 0, 1)) ∧ (decode cX3_init 57 = .ok (.iconst 0, 1)) ∧ (decode cX3_init 58 = .ok (.putfield 30, 3)) ∧ (decode cX3_init 61 = .ok (.aload_n 0, 1)) := by decide +kernel
theorem dX3_init_42 : decode cX3_init 42 = .ok (.newarray .int, 2) := dX3_init_42g.1
theorem dX3_init_44 : decode cX3_init 44 = .ok (.putfield 24, 3) := dX3_init_42g.2.1
theorem dX3_init_47 : decode cX3_init 47 = .ok (.aload_n 0, 1) := dX3_init_42g.2.2.1
theorem dX3_init_48 : decode cX3_init 48 = .ok (.sipush 401, 3) := dX3_init_42g.2.2.2.1
theorem dX3_init_51 : decode cX3_init 51 = .ok (.newarray .int, 2) := dX3_init_42g.2.2.2.2.1
theorem dX3_init_53 : decode cX3_init 53 = .ok (.putfield 27, 3) := dX3_init_42g.2.2.2.2.2.1
theorem dX3_init_56 : decode cX3_init 56 = .ok (.aload_n 0, 1) := dX3_init_42g.2.2.2.2.2.2.1
theorem dX3_init_57 : decode cX3_init 57 = .ok (.iconst 0, 1) := dX3_init_42g.2.2.2.2.2.2.2.1
theorem dX3_init_58 : decode cX3_init 58 = .ok (.putfield 30, 3) := dX3_init_42g.2.2.2.2.2.2.2.2.1
theorem dX3_init_61 : decode cX3_init 61 = .ok (.aload_n 0, 1) := dX3_init_42g.2.2.2.2.2.2.2.2.2
theorem dX3_init_62g : (decode cX3_init 62 = .ok (.iconst 0, 1)) ∧ (decode cX3_init 63 = .ok (.putfield 34, 3)) ∧ (decode cX3_init 66 = .ok (.aload_n 0, 1)) ∧ (decode cX3_init 67 = .ok (.iconst 0, 1)) ∧ (decode cX3_init 68 = .ok (.putfield 37, 3)) ∧ (decode cX3_init 71 = .ok (.aload_n 0, 1)) ∧ (decode cX3_init 72 = .ok (.iconst 0, 1)) ∧ (decode cX3_init 73 = .ok (.putfield 40, 3)) ∧ (decode cX3_init 76 = .ok (.aload_n 0, 1)) ∧ (decode cX3_init 77 = .ok (.iconst 0, 1)) := by decide +kernel
theorem dX3_init_62 : decode cX3_init 62 = .ok (.iconst 0, 1) := dX3_init_62g.1
theorem dX3_init_63 : decode cX3_init 63 = .ok (.putfield 34, 3) := dX3_init_62g.2.1
theorem dX3_init_66 : decode cX3_init 66 = .ok (.aload_n 0, 1) := dX3_init_62g.2.2.1
theorem dX3_init_67 : decode cX3_init 67 = .ok (.iconst 0, 1) := dX3_init_62g.2.2.2.1
theorem dX3_init_68 : decode cX3_init 68 = .ok (.putfield 37, 3) := dX3_init_62g.2.2.2.2.1
theorem dX3_init_71 : decode cX3_init 71 = .ok (.aload_n 0, 1) := dX3_init_62g.2.2.2.2.2.1
theorem dX3_init_72 : decode cX3_init 72 = .ok (.iconst 0, 1) := dX3_init_62g.2.2.2.2.2.2.1
theorem dX3_init_73 : decode cX3_init 73 = .ok (.putfield 40, 3) := dX3_init_62g.2.2.2.2.2.2.2.1
theorem dX3_init_76 : decode cX3_init 76 = .ok (.aload_n 0, 1) := dX3_init_62g.2.2.2.2.2.2.2.2.1
theorem dX3_init_77 : decode cX3_init 77 = .ok (.iconst 0, 1) := dX3_init_62g.2.2.2.2.2.2.2.2.2
theorem dX3_init_78g : (decode cX3_init 78 = .ok (.putfield 43, 3)) ∧ (decode cX3_init 81 = .ok (.aload_n 0, 1)) ∧ (decode cX3_init 82 = .ok (.iconst (-1), 1)) ∧ (decode cX3_init 83 = .ok (.putfield 46, 3)) ∧ (decode cX3_init 86 = .ok (.return_, 1)) := by decide +kernel
theorem dX3_init_78 : decode cX3_init 78 = .ok (.putfield 43, 3) := dX3_init_78g.1
theorem dX3_init_81 : decode cX3_init 81 = .ok (.aload_n 0, 1) := dX3_init_78g.2.1
theorem dX3_init_82 : decode cX3_init 82 = .ok (.iconst (-1), 1) := dX3_init_78g.2.2.1
theorem dX3_init_83 : decode cX3_init 83 = .ok (.putfield 46, 3) := dX3_init_78g.2.2.2.1
theorem dX3_init_86 : decode cX3_init 86 = .ok (.return_, 1) := dX3_init_78g.2.2.2.2
set_option maxHeartbeats 4000000 in
set_option maxRecDepth 100000 in
theorem c_X3_init (l : Launch) (E : Nat → Nat) (D : va_G) (Gi : th_G) (h0 sz : Nat) (hn0 : Gi h0 = none) (hE : ∀ k : Nat, (32 + 8 * h0 ≤ k ∧ k < 40 + 8 * h0) ∨ 32 + 8 * sz ≤ k → E k = 0)  : Met l yX3_init (tb (.code yX3_init cX3_init 1 none)) ({ frames := 1, cells := 6, slots := 1640, locals := 40 } : Room) (va_Pc [.ref h0] (fun U => U.heap.size = sz ∧ th_P E D Gi U ∧ va_at D vwCl (h0, .inr (3, [.null, .null, .null, .null, .null, .null, .int 0, .int 0, .int 0, .int 0, .int 0, .int 0])) U.heap ∧ th_AO U)) (QM E D Gi h0 (7, 12) sz) 6 1640 (mA Gi h0 sz) := by
  refine Met.ofW (cc := cX3_init) (maxL := 1) (ret := none) (by decide) rfl ?_
  intro p e s m args below meth c s₁ B hml hv
  obtain ⟨hav, rfl, ⟨hI, hN, hK⟩, hO, hAO⟩ := hv
  have hx := B.exec
  have hb := B.bytes
  have hr := B.returns
  have hts := atoms_spec (ws := tb (.code yX3_init cX3_init 1 none)) B.pre
  have hown : s.vm.findClass RX3 = some m.cls := findClass_of_methodNamed B.named
  have hlocks := B.notSynchronized
  have hin : meth.name = "<init>" := (name_of_methodNamed B.named B.method).1
  have hl := lv_entry ([.ref h0]) (n := 1) (Nat.le_of_ble_eq_true rfl)
  rw [show entryFrame m args 1 = entryFrame m ([.ref h0] : List Value).toArray 1 from by rw [hav], lg_entry_eq]
  generalize (lg_sl ([.ref h0]) ++ List.replicate (1 - (lg_sl ([.ref h0])).length) Slot.unset).toArray = ls at hl ⊢
  have hl : lv_has ls 1 [(0, .ref h0)] := hl
  generalize hR : (headSpec (tb (.code yX3_init cX3_init 1 none)) ({ frames := 1, cells := 6, slots := 1640, locals := 40 } : Room)).room = R
  have hR := hR.symm
  generalize hAe : mA Gi h0 s.heap.size = A
  have hA : ∀ q : Nat, s.heap.size ≤ q → A q := fun q h => by rw [← hAe]; exact Or.inr (Or.inr h)
  have hA0 : A h0 := by rw [← hAe]; exact Or.inr (Or.inl rfl)
  have hS : va_S A s.heap s.heap [] := va_S.rf
  obtain ⟨G, hle0, hI, hn0, hAG⟩ : ∃ G, gle Gi G ∧ th_I (okC E) D G [] s.heap ∧ G h0 = none ∧ (∀ (r : Nat) (k : th_K), G r = some k → A r) := ⟨Gi, gle.rf, hI, hn0, fun r k h => by rw [← hAe]; exact Or.inl ⟨k, h⟩⟩
  refine lv_aload_n hx hb dX3_init_0 rfl (lv_at hl 0 rfl) ?_
  refine W.objInit hx hb hown (hts _ (tb_c wd_128)) (hts _ (tb_c wd_28)) (hts _ (tb_c wd_oinit)) rfl (by rw [hml]; exact hl.1) rfl dX3_init_1 (by rw [hR]; exact Nat.le_of_ble_eq_true rfl) (by rw [hR]; exact Nat.le_of_ble_eq_true rfl) ?_
  refine W.eq (g2 := F0 m 4 ls []) rfl ?_
  refine lv_aload_n hx hb dX3_init_4 rfl (lv_at hl 0 rfl) ?_
  refine lv_bipush (v := 12) hx hb dX3_init_5 (by decide) ?_
  refine th_newi hx hb (hts _ (tb_c wd_55)) hK hI hS hA hAG 12 (by decide) (by decide) (by decide) (by rw [hR]; exact Nat.le_of_ble_eq_true rfl) (by rw [hR]; exact Nat.le_of_ble_eq_true rfl) dX3_init_7 (fun G a1 H hle hq2 hAG hqe hGne o1 hI hS => ?_)
  have hlt0 : h0 < _ := hO.lt
  have hn0 : G h0 = none := (hGne h0 (by omega)).trans hn0
  have hO := hO.kept (o1 _ hlt0)
  have hle0 := hle0.tr hle
  refine th_putF (ty := (.array .int)) hx hb hts inT3 tyX3 tyX3_ok nmX3 hown hK hO hS hA0 rfl 0 (by decide) (hts _ (tb_c wd_129)) rfl hin rfl (by decide +kernel) rfl rfl (Nat.le_of_ble_eq_true rfl) dX3_init_9 (fun H locs hO oq hS => ?_)
  have hI := th_raw hI hn0 oq
  have hO : va_at D vwCl (h0, .inr (3, [.ref a1, .null, .null, .null, .null, .null, .int 0, .int 0, .int 0, .int 0, .int 0, .int 0])) H := hO
  refine lv_aload_n hx hb dX3_init_12 rfl (lv_at hl 0 rfl) ?_
  refine lv_bipush (v := 25) hx hb dX3_init_13 (by decide) ?_
  refine th_newi hx hb (hts _ (tb_c wd_55)) hK hI hS hA hAG 25 (by decide) (by decide) (by decide) (by rw [hR]; exact Nat.le_of_ble_eq_true rfl) (by rw [hR]; exact Nat.le_of_ble_eq_true rfl) dX3_init_15 (fun G a3 H hle hq4 hAG hqe hGne o1 hI hS => ?_)
  have hlt0 : h0 < _ := hO.lt
  have hn0 : G h0 = none := (hGne h0 (by omega)).trans hn0
  have hO := hO.kept (o1 _ hlt0)
  have hq2 := hle _ _ hq2
  have hle0 := hle0.tr hle
  refine th_putF (ty := (.array .int)) hx hb hts inT3 tyX3 tyX3_ok nmX3 hown hK hO hS hA0 rfl 1 (by decide) (hts _ (tb_c wd_130)) rfl hin rfl (by decide +kernel) rfl rfl (Nat.le_of_ble_eq_true rfl) dX3_init_17 (fun H locs hO oq hS => ?_)
  have hI := th_raw hI hn0 oq
  have hO : va_at D vwCl (h0, .inr (3, [.ref a1, .ref a3, .null, .null, .null, .null, .int 0, .int 0, .int 0, .int 0, .int 0, .int 0])) H := hO
  refine lv_aload_n hx hb dX3_init_20 rfl (lv_at hl 0 rfl) ?_
  refine lv_sipush (v := 400) hx hb dX3_init_21 (by decide) ?_
  refine th_newi hx hb (hts _ (tb_c wd_55)) hK hI hS hA hAG 400 (by decide) (by decide) (by decide) (by rw [hR]; exact Nat.le_of_ble_eq_true rfl) (by rw [hR]; exact Nat.le_of_ble_eq_true rfl) dX3_init_24 (fun G a5 H hle hq6 hAG hqe hGne o1 hI hS => ?_)
  have hlt0 : h0 < _ := hO.lt
  have hn0 : G h0 = none := (hGne h0 (by omega)).trans hn0
  have hO := hO.kept (o1 _ hlt0)
  have hq2 := hle _ _ hq2
  have hq4 := hle _ _ hq4
  have hle0 := hle0.tr hle
  refine th_putF (ty := (.array .int)) hx hb hts inT3 tyX3 tyX3_ok nmX3 hown hK hO hS hA0 rfl 2 (by decide) (hts _ (tb_c wd_131)) rfl hin rfl (by decide +kernel) rfl rfl (Nat.le_of_ble_eq_true rfl) dX3_init_26 (fun H locs hO oq hS => ?_)
  have hI := th_raw hI hn0 oq
  have hO : va_at D vwCl (h0, .inr (3, [.ref a1, .ref a3, .ref a5, .null, .null, .null, .int 0, .int 0, .int 0, .int 0, .int 0, .int 0])) H := hO
  refine lv_aload_n hx hb dX3_init_29 rfl (lv_at hl 0 rfl) ?_
  refine lv_sipush (v := 401) hx hb dX3_init_30 (by decide) ?_
  refine th_newi hx hb (hts _ (tb_c wd_55)) hK hI hS hA hAG 401 (by decide) (by decide) (by decide) (by rw [hR]; exact Nat.le_of_ble_eq_true rfl) (by rw [hR]; exact Nat.le_of_ble_eq_true rfl) dX3_init_33 (fun G a7 H hle hq8 hAG hqe hGne o1 hI hS => ?_)
  have hlt0 : h0 < _ := hO.lt
  have hn0 : G h0 = none := (hGne h0 (by omega)).trans hn0
  have hO := hO.kept (o1 _ hlt0)
  have hq2 := hle _ _ hq2
  have hq4 := hle _ _ hq4
  have hq6 := hle _ _ hq6
  have hle0 := hle0.tr hle
  refine th_putF (ty := (.array .int)) hx hb hts inT3 tyX3 tyX3_ok nmX3 hown hK hO hS hA0 rfl 3 (by decide) (hts _ (tb_c wd_132)) rfl hin rfl (by decide +kernel) rfl rfl (Nat.le_of_ble_eq_true rfl) dX3_init_35 (fun H locs hO oq hS => ?_)
  have hI := th_raw hI hn0 oq
  have hO : va_at D vwCl (h0, .inr (3, [.ref a1, .ref a3, .ref a5, .ref a7, .null, .null, .int 0, .int 0, .int 0, .int 0, .int 0, .int 0])) H := hO
  refine lv_aload_n hx hb dX3_init_38 rfl (lv_at hl 0 rfl) ?_
  refine lv_sipush (v := 401) hx hb dX3_init_39 (by decide) ?_
  refine th_newi hx hb (hts _ (tb_c wd_55)) hK hI hS hA hAG 401 (by decide) (by decide) (by decide) (by rw [hR]; exact Nat.le_of_ble_eq_true rfl) (by rw [hR]; exact Nat.le_of_ble_eq_true rfl) dX3_init_42 (fun G a9 H hle hq10 hAG hqe hGne o1 hI hS => ?_)
  have hlt0 : h0 < _ := hO.lt
  have hn0 : G h0 = none := (hGne h0 (by omega)).trans hn0
  have hO := hO.kept (o1 _ hlt0)
  have hq2 := hle _ _ hq2
  have hq4 := hle _ _ hq4
  have hq6 := hle _ _ hq6
  have hq8 := hle _ _ hq8
  have hle0 := hle0.tr hle
  refine th_putF (ty := (.array .int)) hx hb hts inT3 tyX3 tyX3_ok nmX3 hown hK hO hS hA0 rfl 4 (by decide) (hts _ (tb_c wd_133)) rfl hin rfl (by decide +kernel) rfl rfl (Nat.le_of_ble_eq_true rfl) dX3_init_44 (fun H locs hO oq hS => ?_)
  have hI := th_raw hI hn0 oq
  have hO : va_at D vwCl (h0, .inr (3, [.ref a1, .ref a3, .ref a5, .ref a7, .ref a9, .null, .int 0, .int 0, .int 0, .int 0, .int 0, .int 0])) H := hO
  refine lv_aload_n hx hb dX3_init_47 rfl (lv_at hl 0 rfl) ?_
  refine lv_sipush (v := 401) hx hb dX3_init_48 (by decide) ?_
  refine th_newi hx hb (hts _ (tb_c wd_55)) hK hI hS hA hAG 401 (by decide) (by decide) (by decide) (by rw [hR]; exact Nat.le_of_ble_eq_true rfl) (by rw [hR]; exact Nat.le_of_ble_eq_true rfl) dX3_init_51 (fun G a11 H hle hq12 hAG hqe hGne o1 hI hS => ?_)
  have hlt0 : h0 < _ := hO.lt
  have hn0 : G h0 = none := (hGne h0 (by omega)).trans hn0
  have hO := hO.kept (o1 _ hlt0)
  have hq2 := hle _ _ hq2
  have hq4 := hle _ _ hq4
  have hq6 := hle _ _ hq6
  have hq8 := hle _ _ hq8
  have hq10 := hle _ _ hq10
  have hle0 := hle0.tr hle
  refine th_putF (ty := (.array .int)) hx hb hts inT3 tyX3 tyX3_ok nmX3 hown hK hO hS hA0 rfl 5 (by decide) (hts _ (tb_c wd_134)) rfl hin rfl (by decide +kernel) rfl rfl (Nat.le_of_ble_eq_true rfl) dX3_init_53 (fun H locs hO oq hS => ?_)
  have hI := th_raw hI hn0 oq
  have hO : va_at D vwCl (h0, .inr (3, [.ref a1, .ref a3, .ref a5, .ref a7, .ref a9, .ref a11, .int 0, .int 0, .int 0, .int 0, .int 0, .int 0])) H := hO
  refine lv_aload_n hx hb dX3_init_56 rfl (lv_at hl 0 rfl) ?_
  refine lv_iconst (v := 0) hx hb dX3_init_57 (by decide) ?_
  refine th_put (ty := .int) hx hb hts inT3 tyX3 tyX3_ok nmX3 hown hK hO hS hA0 rfl 6 (by decide) (hts _ (tb_c wd_135)) rfl rfl (by decide +kernel) rfl rfl (Nat.le_of_ble_eq_true rfl) dX3_init_58 (fun H locs hO oq hS => ?_)
  have hI := th_raw hI hn0 oq
  have hO : va_at D vwCl (h0, .inr (3, [.ref a1, .ref a3, .ref a5, .ref a7, .ref a9, .ref a11, .int 0, .int 0, .int 0, .int 0, .int 0, .int 0])) H := hO
  refine lv_aload_n hx hb dX3_init_61 rfl (lv_at hl 0 rfl) ?_
  refine lv_iconst (v := 0) hx hb dX3_init_62 (by decide) ?_
  refine th_put (ty := .int) hx hb hts inT3 tyX3 tyX3_ok nmX3 hown hK hO hS hA0 rfl 7 (by decide) (hts _ (tb_c wd_136)) rfl rfl (by decide +kernel) rfl rfl (Nat.le_of_ble_eq_true rfl) dX3_init_63 (fun H locs hO oq hS => ?_)
  have hI := th_raw hI hn0 oq
  have hO : va_at D vwCl (h0, .inr (3, [.ref a1, .ref a3, .ref a5, .ref a7, .ref a9, .ref a11, .int 0, .int 0, .int 0, .int 0, .int 0, .int 0])) H := hO
  refine lv_aload_n hx hb dX3_init_66 rfl (lv_at hl 0 rfl) ?_
  refine lv_iconst (v := 0) hx hb dX3_init_67 (by decide) ?_
  refine th_put (ty := .int) hx hb hts inT3 tyX3 tyX3_ok nmX3 hown hK hO hS hA0 rfl 8 (by decide) (hts _ (tb_c wd_137)) rfl rfl (by decide +kernel) rfl rfl (Nat.le_of_ble_eq_true rfl) dX3_init_68 (fun H locs hO oq hS => ?_)
  have hI := th_raw hI hn0 oq
  have hO : va_at D vwCl (h0, .inr (3, [.ref a1, .ref a3, .ref a5, .ref a7, .ref a9, .ref a11, .int 0, .int 0, .int 0, .int 0, .int 0, .int 0])) H := hO
  refine lv_aload_n hx hb dX3_init_71 rfl (lv_at hl 0 rfl) ?_
  refine lv_iconst (v := 0) hx hb dX3_init_72 (by decide) ?_
  refine th_put (ty := .int) hx hb hts inT3 tyX3 tyX3_ok nmX3 hown hK hO hS hA0 rfl 9 (by decide) (hts _ (tb_c wd_138)) rfl rfl (by decide +kernel) rfl rfl (Nat.le_of_ble_eq_true rfl) dX3_init_73 (fun H locs hO oq hS => ?_)
  have hI := th_raw hI hn0 oq
  have hO : va_at D vwCl (h0, .inr (3, [.ref a1, .ref a3, .ref a5, .ref a7, .ref a9, .ref a11, .int 0, .int 0, .int 0, .int 0, .int 0, .int 0])) H := hO
  refine lv_aload_n hx hb dX3_init_76 rfl (lv_at hl 0 rfl) ?_
  refine lv_iconst (v := 0) hx hb dX3_init_77 (by decide) ?_
  refine th_put (ty := .int) hx hb hts inT3 tyX3 tyX3_ok nmX3 hown hK hO hS hA0 rfl 10 (by decide) (hts _ (tb_c wd_139)) rfl rfl (by decide +kernel) rfl rfl (Nat.le_of_ble_eq_true rfl) dX3_init_78 (fun H locs hO oq hS => ?_)
  have hI := th_raw hI hn0 oq
  have hO : va_at D vwCl (h0, .inr (3, [.ref a1, .ref a3, .ref a5, .ref a7, .ref a9, .ref a11, .int 0, .int 0, .int 0, .int 0, .int 0, .int 0])) H := hO
  refine lv_aload_n hx hb dX3_init_81 rfl (lv_at hl 0 rfl) ?_
  refine lv_iconst (v := (-1)) hx hb dX3_init_82 (by decide) ?_
  refine th_put (ty := .int) hx hb hts inT3 tyX3 tyX3_ok nmX3 hown hK hO hS hA0 rfl 11 (by decide) (hts _ (tb_c wd_140)) rfl rfl (by decide +kernel) rfl rfl (Nat.le_of_ble_eq_true rfl) dX3_init_83 (fun H locs hO oq hS => ?_)
  have hI := th_raw hI hn0 oq
  have hO : va_at D vwCl (h0, .inr (3, [.ref a1, .ref a3, .ref a5, .ref a7, .ref a9, .ref a11, .int 0, .int 0, .int 0, .int 0, .int 0, .int (-1)])) H := hO
  have hO : va_at D vwCl (h0, .inr (3, [.ref a1, .ref a3, .ref a5, .ref a7, .ref a9, .ref a11, .int 0, .int 0, .int 0, .int 0, .int 0, .int (-1)])) H := hO
  have hI := th_type (k := (7, 12)) hI hn0 hO (ok_7 (gx_le hn0 _ _ hq2) (gx_le hn0 _ _ hq4) (gx_le hn0 _ _ hq6) (gx_le hn0 _ _ hq8) (gx_le hn0 _ _ hq10) (gx_le hn0 _ _ hq12) ⟨by decide, by decide⟩ ⟨by decide, by decide⟩ ⟨by decide, by decide⟩ (by decide))
  refine W.widen (k := 6) (n := 1640) (Nat.le_of_ble_eq_true rfl) (Nat.le_of_ble_eq_true rfl) ?_
  rw [← hAe] at hS ⊢
  exact W.vret hx hb hr (fun t ht hW => ⟨⟨gx G h0 (7, 12), rfl, ⟨hle0.tr (gx_le hn0), gx_a, fun r k hr => mA_new (hAe ▸ hAG) hle0 hr⟩, by rw [ht]; exact hI, hN.warm hW, va_K.moved hW.alike hK⟩, hS.F ht⟩) hS.2.2 dX3_init_86
theorem dX7_init_0g : (decode cX7_init 0 = .ok (.aload_n 0, 1)) ∧ (decode cX7_init 1 = .ok (.invokespecial 3, 3)) ∧ (decode cX7_init 4 = .ok (.aload_n 0, 1)) ∧ (decode cX7_init 5 = .ok (.new 9, 3)) ∧ (decode cX7_init 8 = .ok (.dup, 1)) ∧ (decode cX7_init 9 = .ok (.invokespecial 11, 3)) ∧ (decode cX7_init 12 = .ok (.putfield 12, 3)) ∧ (decode cX7_init 15 = .ok (.aload_n 0, 1)) ∧ (decode cX7_init 16 = .ok (.sipush 2304, 3)) ∧ (decode cX7_init 19 = .ok (.newarray .int, 2)) := by decide +kernel
theorem dX7_init_0 : decode cX7_init 0 = .ok (.aload_n 0, 1) := dX7_init_0g.1
theorem dX7_init_1 : decode cX7_init 1 = .ok (.invokespecial 3, 3) := dX7_init_0g.2.1
theorem dX7_init_4 : decode cX7_init 4 = .ok (.aload_n 0, 1) := dX7_init_0g.2.2.1
theorem dX7_init_5 : decode cX7_init 5 = .ok (.new 9, 3) := dX7_init_0g.2.2.2.1
theorem dX7_init_8 : decode cX7_init 8 = .ok (.dup, 1) := dX7_init_0g.2.2.2.2.1
theorem dX7_init_9 : decode cX7_init 9 = .ok (.invokespecial 11, 3) := dX7_init_0g.2.2.2.2.2.1
theorem dX7_init_12 : decode cX7_init 12 = .ok (.putfield 12, 3) := dX7_init_0g.2.2.2.2.2.2.1
theorem dX7_init_15 : decode cX7_init 15 = .ok (.aload_n 0, 1) := dX7_init_0g.2.2.2.2.2.2.2.1
theorem dX7_init_16 : decode cX7_init 16 = .ok (.sipush 2304, 3) := dX7_init_0g.2.2.2.2.2.2.2.2.1
theorem dX7_init_19 : decode cX7_init 19 = .ok (.newarray .int, 2) := dX7_init_0g.2.2.2.2.2.2.2.2.2
theorem dX7_init_21g : (decode cX7_init 21 = .ok (.putfield 18, 3)) ∧ (decode cX7_init 24 = .ok (.aload_n 0, 1)) ∧ (decode cX7_init 25 = .ok (.sipush 2304, 3)) ∧ (decode cX7_init 28 = .ok (.newarray .int, 2)) ∧ (decode cX7_init 30 = .ok (.putfield 22, 3)) ∧ (decode cX7_init 33 = .ok (.aload_n 0, 1)) ∧ (decode cX7_init 34 = .ok (.bipush 96, 2)) ∧ (decode cX7_init 36 = .ok (.newarray .int, 2)) ∧ (decode cX7_init 38 = .ok (.putfield 25, 3)) ∧ (decode cX7_init 41 = .ok (.aload_n 0, 1)) := by decide +kernel
theorem dX7_init_21 : decode cX7_init 21 = .ok (.putfield 18, 3) := dX7_init_21g.1
theorem dX7_init_24 : decode cX7_init 24 = .ok (.aload_n 0, 1) := dX7_init_21g.2.1
theorem dX7_init_25 : decode cX7_init 25 = .ok (.sipush 2304, 3) := dX7_init_21g.2.2.1
theorem dX7_init_28 : decode cX7_init 28 = .ok (.newarray .int, 2) := dX7_init_21g.2.2.2.1
theorem dX7_init_30 : decode cX7_init 30 = .ok (.putfield 22, 3) := dX7_init_21g.2.2.2.2.1
theorem dX7_init_33 : decode cX7_init 33 = .ok (.aload_n 0, 1) := dX7_init_21g.2.2.2.2.2.1
theorem dX7_init_34 : decode cX7_init 34 = .ok (.bipush 96, 2) := dX7_init_21g.2.2.2.2.2.2.1
theorem dX7_init_36 : decode cX7_init 36 = .ok (.newarray .int, 2) := dX7_init_21g.2.2.2.2.2.2.2.1
theorem dX7_init_38 : decode cX7_init 38 = .ok (.putfield 25, 3) := dX7_init_21g.2.2.2.2.2.2.2.2.1
theorem dX7_init_41 : decode cX7_init 41 = .ok (.aload_n 0, 1) := dX7_init_21g.2.2.2.2.2.2.2.2.2
theorem dX7_init_42g : (decode cX7_init 42 = .ok (.bipush 24, 2)) ∧ (decode cX7_init 44 = .ok (.newarray .int, 2)) ∧ (decode cX7_init 46 = .ok (.putfield 28, 3)) ∧ (decode cX7_init 49 = .ok (.aload_n 0, 1)) ∧ (decode cX7_init 50 = .ok (.iconst 1, 1)) ∧ (decode cX7_init 51 = .ok (.putfield 31, 3)) ∧ (decode cX7_init 54 = .ok (.aload_n 0, 1)) ∧ (decode cX7_init 55 = .ok (.aload_n 1, 1)) ∧ (decode cX7_init 56 = .ok (.putfield 35, 3)) ∧ (decode cX7_init 59 = .ok (.return_, 1)) := by decide +kernel
theorem dX7_init_42 : decode cX7_init 42 = .ok (.bipush 24, 2) := dX7_init_42g.1
theorem dX7_init_44 : decode cX7_init 44 = .ok (.newarray .int, 2) := dX7_init_42g.2.1
theorem dX7_init_46 : decode cX7_init 46 = .ok (.putfield 28, 3) := dX7_init_42g.2.2.1
theorem dX7_init_49 : decode cX7_init 49 = .ok (.aload_n 0, 1) := dX7_init_42g.2.2.2.1
theorem dX7_init_50 : decode cX7_init 50 = .ok (.iconst 1, 1) := dX7_init_42g.2.2.2.2.1
theorem dX7_init_51 : decode cX7_init 51 = .ok (.putfield 31, 3) := dX7_init_42g.2.2.2.2.2.1
theorem dX7_init_54 : decode cX7_init 54 = .ok (.aload_n 0, 1) := dX7_init_42g.2.2.2.2.2.2.1
theorem dX7_init_55 : decode cX7_init 55 = .ok (.aload_n 1, 1) := dX7_init_42g.2.2.2.2.2.2.2.1
theorem dX7_init_56 : decode cX7_init 56 = .ok (.putfield 35, 3) := dX7_init_42g.2.2.2.2.2.2.2.2.1
theorem dX7_init_59 : decode cX7_init 59 = .ok (.return_, 1) := dX7_init_42g.2.2.2.2.2.2.2.2.2
set_option maxHeartbeats 4000000 in
set_option maxRecDepth 100000 in
theorem c_X7_init (l : Launch) (E : Nat → Nat) (D : va_G) (Gi : th_G) (h0 sz : Nat) (hn0 : Gi h0 = none) (hE : ∀ k : Nat, (32 + 8 * h0 ≤ k ∧ k < 40 + 8 * h0) ∨ 32 + 8 * sz ≤ k → E k = 0) (p1 : Nat) (hp1 : Gi p1 = some (6, 0)) : Met l yX7_init (tb (.code yX7_init cX7_init 2 none)) ({ frames := 2, cells := 7, slots := 4804, locals := 80 } : Room) (va_Pc [.ref h0, .ref p1] (fun U => U.heap.size = sz ∧ th_P E D Gi U ∧ va_at D vwCl (h0, .inr (7, [.null, .null, .null, .null, .null, .null, .int 0])) U.heap ∧ th_AO U)) (QM E D Gi h0 (9, 0) sz) 7 4804 (mA Gi h0 sz) := by
  refine Met.ofW (cc := cX7_init) (maxL := 2) (ret := none) (by decide) rfl ?_
  intro p e s m args below meth c s₁ B hml hv
  obtain ⟨hav, rfl, ⟨hI, hN, hK⟩, hO, hAO⟩ := hv
  have hx := B.exec
  have hb := B.bytes
  have hr := B.returns
  have hts := atoms_spec (ws := tb (.code yX7_init cX7_init 2 none)) B.pre
  have hown : s.vm.findClass RX7 = some m.cls := findClass_of_methodNamed B.named
  have hlocks := B.notSynchronized
  have hin : meth.name = "<init>" := (name_of_methodNamed B.named B.method).1
  have hl := lv_entry ([.ref h0, .ref p1]) (n := 2) (Nat.le_of_ble_eq_true rfl)
  rw [show entryFrame m args 2 = entryFrame m ([.ref h0, .ref p1] : List Value).toArray 2 from by rw [hav], lg_entry_eq]
  generalize (lg_sl ([.ref h0, .ref p1]) ++ List.replicate (2 - (lg_sl ([.ref h0, .ref p1])).length) Slot.unset).toArray = ls at hl ⊢
  have hl : lv_has ls 2 [(0, .ref h0), (1, .ref p1)] := hl
  generalize hR : (headSpec (tb (.code yX7_init cX7_init 2 none)) ({ frames := 2, cells := 7, slots := 4804, locals := 80 } : Room)).room = R
  have hR := hR.symm
  generalize hAe : mA Gi h0 s.heap.size = A
  have hA : ∀ q : Nat, s.heap.size ≤ q → A q := fun q h => by rw [← hAe]; exact Or.inr (Or.inr h)
  have hA0 : A h0 := by rw [← hAe]; exact Or.inr (Or.inl rfl)
  have hS : va_S A s.heap s.heap [] := va_S.rf
  obtain ⟨G, hle0, hI, hn0, hAG⟩ : ∃ G, gle Gi G ∧ th_I (okC E) D G [] s.heap ∧ G h0 = none ∧ (∀ (r : Nat) (k : th_K), G r = some k → A r) := ⟨Gi, gle.rf, hI, hn0, fun r k h => by rw [← hAe]; exact Or.inl ⟨k, h⟩⟩
  have hp1 := hle0 _ _ hp1
  refine lv_aload_n hx hb dX7_init_0 rfl (lv_at hl 0 rfl) ?_
  refine W.objInit hx hb hown (hts _ (tb_c wd_171)) (hts _ (tb_c wd_28)) (hts _ (tb_c wd_oinit)) rfl (by rw [hml]; exact hl.1) rfl dX7_init_1 (by rw [hR]; exact Nat.le_of_ble_eq_true rfl) (by rw [hR]; exact Nat.le_of_ble_eq_true rfl) ?_
  refine W.eq (g2 := F0 m 4 ls []) rfl ?_
  refine lv_aload_n hx hb dX7_init_4 rfl (lv_at hl 0 rfl) ?_
  refine th_newo (ci := 0) (fs := [.null, .null, .int 0]) hx hb hts inT0 tyX0 tyX0_ok hown (hts _ (tb_c wd_172)) (hts _ (tb_c wd_173)) (hts _ (tb_c wd_7)) hK hI hS rfl (fun j hj => by rcases (show j = 0 ∨ j = 1 ∨ j = 2 by omega) with rfl | rfl | rfl <;> rfl) (by rw [hR]; exact Nat.le_of_ble_eq_true rfl) (by rw [hR]; exact Nat.le_of_ble_eq_true rfl) dX7_init_5 (fun a1 H hqe hnn hnsz hOn o1 hI hS => ?_)
  have hlt0 : h0 < _ := hO.lt
  have hne0 : h0 ≠ a1 := by omega
  have hO := hO.kept (o1 _ hlt0)
  have hlt_a1 : h0 < a1 := by omega
  refine lv_dup hx hb dX7_init_8 rfl ?_
  refine th_cIN (As := []) (rest := [.ref a1, .ref h0]) (n := 0) ⟨hx, hb, hml, hown, hts⟩ (c_X0_init l E D G a1 H.size hnn (fun k h => hE k (by have := hS.1; omega)) ) wn_174 wd_175 wd_7 wd_176 (by decide +kernel) ⟨by rw [hR]; exact Nat.le_of_ble_eq_true rfl, by rw [hR]; exact Nat.le_of_ble_eq_true rfl⟩ hI hN hAO hK hOn hnn hnsz hS hA hAG rfl hl.1 rfl (Nat.le_of_ble_eq_true rfl) dX7_init_9 ⟨by rw [hR]; exact Nat.le_of_ble_eq_true rfl, by rw [hR]; exact Nat.le_of_ble_eq_true rfl⟩ (fun G H locs hle hq2 hAG hGne hk hI hS => ?_)
  have hlt0 : h0 < _ := hO.lt
  have hO := hO.kept (hk _ hlt0 hn0 hne0)
  have hn0 : G h0 = none := hGne _ hlt0 hn0 hne0
  have hp1 := hle _ _ hp1
  have hle0 := hle0.tr hle
  refine th_putF (ty := (.object "NineRiver$Asker")) hx hb hts inT7 tyX7 tyX7_ok nmX7 hown hK hO hS hA0 rfl 1 (by decide) (hts _ (tb_c wd_190)) rfl hin rfl (by decide +kernel) rfl rfl (Nat.le_of_ble_eq_true rfl) dX7_init_12 (fun H locs hO oq hS => ?_)
  have hI := th_raw hI hn0 oq
  have hO : va_at D vwCl (h0, .inr (7, [.null, .ref a1, .null, .null, .null, .null, .int 0])) H := hO
  refine lv_aload_n hx hb dX7_init_15 rfl (lv_at hl 0 rfl) ?_
  refine lv_sipush (v := 2304) hx hb dX7_init_16 (by decide) ?_
  refine th_newi hx hb (hts _ (tb_c wd_55)) hK hI hS hA hAG 2304 (by decide) (by decide) (by decide) (by rw [hR]; exact Nat.le_of_ble_eq_true rfl) (by rw [hR]; exact Nat.le_of_ble_eq_true rfl) dX7_init_19 (fun G a3 H hle hq4 hAG hqe hGne o1 hI hS => ?_)
  have hlt0 : h0 < _ := hO.lt
  have hn0 : G h0 = none := (hGne h0 (by omega)).trans hn0
  have hO := hO.kept (o1 _ hlt0)
  have hp1 := hle _ _ hp1
  have hq2 := hle _ _ hq2
  have hle0 := hle0.tr hle
  refine th_putF (ty := (.array .int)) hx hb hts inT7 tyX7 tyX7_ok nmX7 hown hK hO hS hA0 rfl 2 (by decide) (hts _ (tb_c wd_191)) rfl hin rfl (by decide +kernel) rfl rfl (Nat.le_of_ble_eq_true rfl) dX7_init_21 (fun H locs hO oq hS => ?_)
  have hI := th_raw hI hn0 oq
  have hO : va_at D vwCl (h0, .inr (7, [.null, .ref a1, .ref a3, .null, .null, .null, .int 0])) H := hO
  refine lv_aload_n hx hb dX7_init_24 rfl (lv_at hl 0 rfl) ?_
  refine lv_sipush (v := 2304) hx hb dX7_init_25 (by decide) ?_
  refine th_newi hx hb (hts _ (tb_c wd_55)) hK hI hS hA hAG 2304 (by decide) (by decide) (by decide) (by rw [hR]; exact Nat.le_of_ble_eq_true rfl) (by rw [hR]; exact Nat.le_of_ble_eq_true rfl) dX7_init_28 (fun G a5 H hle hq6 hAG hqe hGne o1 hI hS => ?_)
  have hlt0 : h0 < _ := hO.lt
  have hn0 : G h0 = none := (hGne h0 (by omega)).trans hn0
  have hO := hO.kept (o1 _ hlt0)
  have hp1 := hle _ _ hp1
  have hq2 := hle _ _ hq2
  have hq4 := hle _ _ hq4
  have hle0 := hle0.tr hle
  refine th_putF (ty := (.array .int)) hx hb hts inT7 tyX7 tyX7_ok nmX7 hown hK hO hS hA0 rfl 3 (by decide) (hts _ (tb_c wd_192)) rfl hin rfl (by decide +kernel) rfl rfl (Nat.le_of_ble_eq_true rfl) dX7_init_30 (fun H locs hO oq hS => ?_)
  have hI := th_raw hI hn0 oq
  have hO : va_at D vwCl (h0, .inr (7, [.null, .ref a1, .ref a3, .ref a5, .null, .null, .int 0])) H := hO
  refine lv_aload_n hx hb dX7_init_33 rfl (lv_at hl 0 rfl) ?_
  refine lv_bipush (v := 96) hx hb dX7_init_34 (by decide) ?_
  refine th_newi hx hb (hts _ (tb_c wd_55)) hK hI hS hA hAG 96 (by decide) (by decide) (by decide) (by rw [hR]; exact Nat.le_of_ble_eq_true rfl) (by rw [hR]; exact Nat.le_of_ble_eq_true rfl) dX7_init_36 (fun G a7 H hle hq8 hAG hqe hGne o1 hI hS => ?_)
  have hlt0 : h0 < _ := hO.lt
  have hn0 : G h0 = none := (hGne h0 (by omega)).trans hn0
  have hO := hO.kept (o1 _ hlt0)
  have hp1 := hle _ _ hp1
  have hq2 := hle _ _ hq2
  have hq4 := hle _ _ hq4
  have hq6 := hle _ _ hq6
  have hle0 := hle0.tr hle
  refine th_putF (ty := (.array .int)) hx hb hts inT7 tyX7 tyX7_ok nmX7 hown hK hO hS hA0 rfl 4 (by decide) (hts _ (tb_c wd_193)) rfl hin rfl (by decide +kernel) rfl rfl (Nat.le_of_ble_eq_true rfl) dX7_init_38 (fun H locs hO oq hS => ?_)
  have hI := th_raw hI hn0 oq
  have hO : va_at D vwCl (h0, .inr (7, [.null, .ref a1, .ref a3, .ref a5, .ref a7, .null, .int 0])) H := hO
  refine lv_aload_n hx hb dX7_init_41 rfl (lv_at hl 0 rfl) ?_
  refine lv_bipush (v := 24) hx hb dX7_init_42 (by decide) ?_
  refine th_newi hx hb (hts _ (tb_c wd_55)) hK hI hS hA hAG 24 (by decide) (by decide) (by decide) (by rw [hR]; exact Nat.le_of_ble_eq_true rfl) (by rw [hR]; exact Nat.le_of_ble_eq_true rfl) dX7_init_44 (fun G a9 H hle hq10 hAG hqe hGne o1 hI hS => ?_)
  have hlt0 : h0 < _ := hO.lt
  have hn0 : G h0 = none := (hGne h0 (by omega)).trans hn0
  have hO := hO.kept (o1 _ hlt0)
  have hp1 := hle _ _ hp1
  have hq2 := hle _ _ hq2
  have hq4 := hle _ _ hq4
  have hq6 := hle _ _ hq6
  have hq8 := hle _ _ hq8
  have hle0 := hle0.tr hle
  refine th_putF (ty := (.array .int)) hx hb hts inT7 tyX7 tyX7_ok nmX7 hown hK hO hS hA0 rfl 5 (by decide) (hts _ (tb_c wd_194)) rfl hin rfl (by decide +kernel) rfl rfl (Nat.le_of_ble_eq_true rfl) dX7_init_46 (fun H locs hO oq hS => ?_)
  have hI := th_raw hI hn0 oq
  have hO : va_at D vwCl (h0, .inr (7, [.null, .ref a1, .ref a3, .ref a5, .ref a7, .ref a9, .int 0])) H := hO
  refine lv_aload_n hx hb dX7_init_49 rfl (lv_at hl 0 rfl) ?_
  refine lv_iconst (v := 1) hx hb dX7_init_50 (by decide) ?_
  refine th_put (ty := .boolean) hx hb hts inT7 tyX7 tyX7_ok nmX7 hown hK hO hS hA0 rfl 6 (by decide) (hts _ (tb_c wd_195)) rfl rfl (by decide +kernel) (by decide) rfl (Nat.le_of_ble_eq_true rfl) dX7_init_51 (fun H locs hO oq hS => ?_)
  have hI := th_raw hI hn0 oq
  have hO : va_at D vwCl (h0, .inr (7, [.null, .ref a1, .ref a3, .ref a5, .ref a7, .ref a9, .int 1])) H := hO
  refine lv_aload_n hx hb dX7_init_54 rfl (lv_at hl 0 rfl) ?_
  refine lv_aload_n hx hb dX7_init_55 rfl (lv_at hl 1 rfl) ?_
  refine th_putF (ty := (.object "NineRiver$State")) hx hb hts inT7 tyX7 tyX7_ok nmX7 hown hK hO hS hA0 rfl 0 (by decide) (hts _ (tb_c wd_189)) rfl hin rfl (by decide +kernel) rfl rfl (Nat.le_of_ble_eq_true rfl) dX7_init_56 (fun H locs hO oq hS => ?_)
  have hI := th_raw hI hn0 oq
  have hO : va_at D vwCl (h0, .inr (7, [.ref p1, .ref a1, .ref a3, .ref a5, .ref a7, .ref a9, .int 1])) H := hO
  have hO : va_at D vwCl (h0, .inr (7, [.ref p1, .ref a1, .ref a3, .ref a5, .ref a7, .ref a9, .int 1])) H := hO
  have hI := th_type (k := (9, 0)) hI hn0 hO (ok_9 (gx_le hn0 _ _ hp1) (gx_le hn0 _ _ hq2) (gx_le hn0 _ _ hq4) (gx_le hn0 _ _ hq6) (gx_le hn0 _ _ hq8) (gx_le hn0 _ _ hq10))
  refine W.widen (k := 7) (n := 4804) (Nat.le_of_ble_eq_true rfl) (Nat.le_of_ble_eq_true rfl) ?_
  rw [← hAe] at hS ⊢
  exact W.vret hx hb hr (fun t ht hW => ⟨⟨gx G h0 (9, 0), rfl, ⟨hle0.tr (gx_le hn0), gx_a, fun r k hr => mA_new (hAe ▸ hAG) hle0 hr⟩, by rw [ht]; exact hI, hN.warm hW, va_K.moved hW.alike hK⟩, hS.F ht⟩) hS.2.2 dX7_init_59
theorem dX9_init_0g : (decode cX9_init 0 = .ok (.aload_n 0, 1)) ∧ (decode cX9_init 1 = .ok (.invokespecial 3, 3)) ∧ (decode cX9_init 4 = .ok (.aload_n 0, 1)) ∧ (decode cX9_init 5 = .ok (.bipush 97, 2)) ∧ (decode cX9_init 7 = .ok (.newarray .int, 2)) ∧ (decode cX9_init 9 = .ok (.putfield 9, 3)) ∧ (decode cX9_init 12 = .ok (.aload_n 0, 1)) ∧ (decode cX9_init 13 = .ok (.bipush 25, 2)) ∧ (decode cX9_init 15 = .ok (.newarray .int, 2)) ∧ (decode cX9_init 17 = .ok (.putfield 15, 3)) := by decide +kernel
theorem dX9_init_0 : decode cX9_init 0 = .ok (.aload_n 0, 1) := dX9_init_0g.1
theorem dX9_init_1 : decode cX9_init 1 = .ok (.invokespecial 3, 3) := dX9_init_0g.2.1
theorem dX9_init_4 : decode cX9_init 4 = .ok (.aload_n 0, 1) := dX9_init_0g.2.2.1
theorem dX9_init_5 : decode cX9_init 5 = .ok (.bipush 97, 2) := dX9_init_0g.2.2.2.1
theorem dX9_init_7 : decode cX9_init 7 = .ok (.newarray .int, 2) := dX9_init_0g.2.2.2.2.1
theorem dX9_init_9 : decode cX9_init 9 = .ok (.putfield 9, 3) := dX9_init_0g.2.2.2.2.2.1
theorem dX9_init_12 : decode cX9_init 12 = .ok (.aload_n 0, 1) := dX9_init_0g.2.2.2.2.2.2.1
theorem dX9_init_13 : decode cX9_init 13 = .ok (.bipush 25, 2) := dX9_init_0g.2.2.2.2.2.2.2.1
theorem dX9_init_15 : decode cX9_init 15 = .ok (.newarray .int, 2) := dX9_init_0g.2.2.2.2.2.2.2.2.1
theorem dX9_init_17 : decode cX9_init 17 = .ok (.putfield 15, 3) := dX9_init_0g.2.2.2.2.2.2.2.2.2
theorem dX9_init_20g : (decode cX9_init 20 = .ok (.aload_n 0, 1)) ∧ (decode cX9_init 21 = .ok (.aload_n 1, 1)) ∧ (decode cX9_init 22 = .ok (.putfield 18, 3)) ∧ (decode cX9_init 25 = .ok (.aload_n 0, 1)) ∧ (decode cX9_init 26 = .ok (.aload_n 2, 1)) ∧ (decode cX9_init 27 = .ok (.putfield 22, 3)) ∧ (decode cX9_init 30 = .ok (.return_, 1)) := by decide +kernel
theorem dX9_init_20 : decode cX9_init 20 = .ok (.aload_n 0, 1) := dX9_init_20g.1
theorem dX9_init_21 : decode cX9_init 21 = .ok (.aload_n 1, 1) := dX9_init_20g.2.1
theorem dX9_init_22 : decode cX9_init 22 = .ok (.putfield 18, 3) := dX9_init_20g.2.2.1
theorem dX9_init_25 : decode cX9_init 25 = .ok (.aload_n 0, 1) := dX9_init_20g.2.2.2.1
theorem dX9_init_26 : decode cX9_init 26 = .ok (.aload_n 2, 1) := dX9_init_20g.2.2.2.2.1
theorem dX9_init_27 : decode cX9_init 27 = .ok (.putfield 22, 3) := dX9_init_20g.2.2.2.2.2.1
theorem dX9_init_30 : decode cX9_init 30 = .ok (.return_, 1) := dX9_init_20g.2.2.2.2.2.2
set_option maxHeartbeats 4000000 in
set_option maxRecDepth 100000 in
theorem c_X9_init (l : Launch) (E : Nat → Nat) (D : va_G) (Gi : th_G) (h0 sz : Nat) (hn0 : Gi h0 = none) (hE : ∀ k : Nat, (32 + 8 * h0 ≤ k ∧ k < 40 + 8 * h0) ∨ 32 + 8 * sz ≤ k → E k = 0) (p1 : Nat) (hp1 : Gi p1 = some (6, 0)) (p2 : Nat) (hp2 : Gi p2 = some (9, 0)) : Met l yX9_init (tb (.code yX9_init cX9_init 3 none)) ({ frames := 1, cells := 2, slots := 122, locals := 40 } : Room) (va_Pc [.ref h0, .ref p1, .ref p2] (fun U => U.heap.size = sz ∧ th_P E D Gi U ∧ va_at D vwCl (h0, .inr (9, [.null, .null, .null, .null])) U.heap ∧ th_AO U)) (QM E D Gi h0 (10, 0) sz) 2 122 (mA Gi h0 sz) := by
  refine Met.ofW (cc := cX9_init) (maxL := 3) (ret := none) (by decide) rfl ?_
  intro p e s m args below meth c s₁ B hml hv
  obtain ⟨hav, rfl, ⟨hI, hN, hK⟩, hO, hAO⟩ := hv
  have hx := B.exec
  have hb := B.bytes
  have hr := B.returns
  have hts := atoms_spec (ws := tb (.code yX9_init cX9_init 3 none)) B.pre
  have hown : s.vm.findClass RX9 = some m.cls := findClass_of_methodNamed B.named
  have hlocks := B.notSynchronized
  have hin : meth.name = "<init>" := (name_of_methodNamed B.named B.method).1
  have hl := lv_entry ([.ref h0, .ref p1, .ref p2]) (n := 3) (Nat.le_of_ble_eq_true rfl)
  rw [show entryFrame m args 3 = entryFrame m ([.ref h0, .ref p1, .ref p2] : List Value).toArray 3 from by rw [hav], lg_entry_eq]
  generalize (lg_sl ([.ref h0, .ref p1, .ref p2]) ++ List.replicate (3 - (lg_sl ([.ref h0, .ref p1, .ref p2])).length) Slot.unset).toArray = ls at hl ⊢
  have hl : lv_has ls 3 [(0, .ref h0), (1, .ref p1), (2, .ref p2)] := hl
  generalize hR : (headSpec (tb (.code yX9_init cX9_init 3 none)) ({ frames := 1, cells := 2, slots := 122, locals := 40 } : Room)).room = R
  have hR := hR.symm
  generalize hAe : mA Gi h0 s.heap.size = A
  have hA : ∀ q : Nat, s.heap.size ≤ q → A q := fun q h => by rw [← hAe]; exact Or.inr (Or.inr h)
  have hA0 : A h0 := by rw [← hAe]; exact Or.inr (Or.inl rfl)
  have hS : va_S A s.heap s.heap [] := va_S.rf
  obtain ⟨G, hle0, hI, hn0, hAG⟩ : ∃ G, gle Gi G ∧ th_I (okC E) D G [] s.heap ∧ G h0 = none ∧ (∀ (r : Nat) (k : th_K), G r = some k → A r) := ⟨Gi, gle.rf, hI, hn0, fun r k h => by rw [← hAe]; exact Or.inl ⟨k, h⟩⟩
  have hp1 := hle0 _ _ hp1
  have hp2 := hle0 _ _ hp2
  refine lv_aload_n hx hb dX9_init_0 rfl (lv_at hl 0 rfl) ?_
  refine W.objInit hx hb hown (hts _ (tb_c wd_216)) (hts _ (tb_c wd_28)) (hts _ (tb_c wd_oinit)) rfl (by rw [hml]; exact hl.1) rfl dX9_init_1 (by rw [hR]; exact Nat.le_of_ble_eq_true rfl) (by rw [hR]; exact Nat.le_of_ble_eq_true rfl) ?_
  refine W.eq (g2 := F0 m 4 ls []) rfl ?_
  refine lv_aload_n hx hb dX9_init_4 rfl (lv_at hl 0 rfl) ?_
  refine lv_bipush (v := 97) hx hb dX9_init_5 (by decide) ?_
  refine th_newi hx hb (hts _ (tb_c wd_55)) hK hI hS hA hAG 97 (by decide) (by decide) (by decide) (by rw [hR]; exact Nat.le_of_ble_eq_true rfl) (by rw [hR]; exact Nat.le_of_ble_eq_true rfl) dX9_init_7 (fun G a1 H hle hq2 hAG hqe hGne o1 hI hS => ?_)
  have hlt0 : h0 < _ := hO.lt
  have hn0 : G h0 = none := (hGne h0 (by omega)).trans hn0
  have hO := hO.kept (o1 _ hlt0)
  have hp1 := hle _ _ hp1
  have hp2 := hle _ _ hp2
  have hle0 := hle0.tr hle
  refine th_putF (ty := (.array .int)) hx hb hts inT9 tyX9 tyX9_ok nmX9 hown hK hO hS hA0 rfl 2 (by decide) (hts _ (tb_c wd_219)) rfl hin rfl (by decide +kernel) rfl rfl (Nat.le_of_ble_eq_true rfl) dX9_init_9 (fun H locs hO oq hS => ?_)
  have hI := th_raw hI hn0 oq
  have hO : va_at D vwCl (h0, .inr (9, [.null, .null, .ref a1, .null])) H := hO
  refine lv_aload_n hx hb dX9_init_12 rfl (lv_at hl 0 rfl) ?_
  refine lv_bipush (v := 25) hx hb dX9_init_13 (by decide) ?_
  refine th_newi hx hb (hts _ (tb_c wd_55)) hK hI hS hA hAG 25 (by decide) (by decide) (by decide) (by rw [hR]; exact Nat.le_of_ble_eq_true rfl) (by rw [hR]; exact Nat.le_of_ble_eq_true rfl) dX9_init_15 (fun G a3 H hle hq4 hAG hqe hGne o1 hI hS => ?_)
  have hlt0 : h0 < _ := hO.lt
  have hn0 : G h0 = none := (hGne h0 (by omega)).trans hn0
  have hO := hO.kept (o1 _ hlt0)
  have hp1 := hle _ _ hp1
  have hp2 := hle _ _ hp2
  have hq2 := hle _ _ hq2
  have hle0 := hle0.tr hle
  refine th_putF (ty := (.array .int)) hx hb hts inT9 tyX9 tyX9_ok nmX9 hown hK hO hS hA0 rfl 3 (by decide) (hts _ (tb_c wd_220)) rfl hin rfl (by decide +kernel) rfl rfl (Nat.le_of_ble_eq_true rfl) dX9_init_17 (fun H locs hO oq hS => ?_)
  have hI := th_raw hI hn0 oq
  have hO : va_at D vwCl (h0, .inr (9, [.null, .null, .ref a1, .ref a3])) H := hO
  refine lv_aload_n hx hb dX9_init_20 rfl (lv_at hl 0 rfl) ?_
  refine lv_aload_n hx hb dX9_init_21 rfl (lv_at hl 1 rfl) ?_
  refine th_putF (ty := (.object "NineRiver$State")) hx hb hts inT9 tyX9 tyX9_ok nmX9 hown hK hO hS hA0 rfl 0 (by decide) (hts _ (tb_c wd_217)) rfl hin rfl (by decide +kernel) rfl rfl (Nat.le_of_ble_eq_true rfl) dX9_init_22 (fun H locs hO oq hS => ?_)
  have hI := th_raw hI hn0 oq
  have hO : va_at D vwCl (h0, .inr (9, [.ref p1, .null, .ref a1, .ref a3])) H := hO
  refine lv_aload_n hx hb dX9_init_25 rfl (lv_at hl 0 rfl) ?_
  refine lv_aload_n hx hb dX9_init_26 rfl (lv_at hl 2 rfl) ?_
  refine th_putF (ty := (.object "NineRiver$Stream")) hx hb hts inT9 tyX9 tyX9_ok nmX9 hown hK hO hS hA0 rfl 1 (by decide) (hts _ (tb_c wd_218)) rfl hin rfl (by decide +kernel) rfl rfl (Nat.le_of_ble_eq_true rfl) dX9_init_27 (fun H locs hO oq hS => ?_)
  have hI := th_raw hI hn0 oq
  have hO : va_at D vwCl (h0, .inr (9, [.ref p1, .ref p2, .ref a1, .ref a3])) H := hO
  have hO : va_at D vwCl (h0, .inr (9, [.ref p1, .ref p2, .ref a1, .ref a3])) H := hO
  have hI := th_type (k := (10, 0)) hI hn0 hO (ok_10 (gx_le hn0 _ _ hp1) (gx_le hn0 _ _ hp2) (gx_le hn0 _ _ hq2) (gx_le hn0 _ _ hq4))
  refine W.widen (k := 2) (n := 122) (Nat.le_of_ble_eq_true rfl) (Nat.le_of_ble_eq_true rfl) ?_
  rw [← hAe] at hS ⊢
  exact W.vret hx hb hr (fun t ht hW => ⟨⟨gx G h0 (10, 0), rfl, ⟨hle0.tr (gx_le hn0), gx_a, fun r k hr => mA_new (hAe ▸ hAG) hle0 hr⟩, by rw [ht]; exact hI, hN.warm hW, va_K.moved hW.alike hK⟩, hS.F ht⟩) hS.2.2 dX9_init_30
theorem dX1_init_0g : (decode cX1_init 0 = .ok (.aload_n 0, 1)) ∧ (decode cX1_init 1 = .ok (.invokespecial 3, 3)) ∧ (decode cX1_init 4 = .ok (.aload_n 0, 1)) ∧ (decode cX1_init 5 = .ok (.bipush 24, 2)) ∧ (decode cX1_init 7 = .ok (.newarray .int, 2)) ∧ (decode cX1_init 9 = .ok (.putfield 9, 3)) ∧ (decode cX1_init 12 = .ok (.aload_n 0, 1)) ∧ (decode cX1_init 13 = .ok (.bipush 97, 2)) ∧ (decode cX1_init 15 = .ok (.newarray .int, 2)) ∧ (decode cX1_init 17 = .ok (.putfield 15, 3)) := by decide +kernel
theorem dX1_init_0 : decode cX1_init 0 = .ok (.aload_n 0, 1) := dX1_init_0g.1
theorem dX1_init_1 : decode cX1_init 1 = .ok (.invokespecial 3, 3) := dX1_init_0g.2.1
theorem dX1_init_4 : decode cX1_init 4 = .ok (.aload_n 0, 1) := dX1_init_0g.2.2.1
theorem dX1_init_5 : decode cX1_init 5 = .ok (.bipush 24, 2) := dX1_init_0g.2.2.2.1
theorem dX1_init_7 : decode cX1_init 7 = .ok (.newarray .int, 2) := dX1_init_0g.2.2.2.2.1
theorem dX1_init_9 : decode cX1_init 9 = .ok (.putfield 9, 3) := dX1_init_0g.2.2.2.2.2.1
theorem dX1_init_12 : decode cX1_init 12 = .ok (.aload_n 0, 1) := dX1_init_0g.2.2.2.2.2.2.1
theorem dX1_init_13 : decode cX1_init 13 = .ok (.bipush 97, 2) := dX1_init_0g.2.2.2.2.2.2.2.1
theorem dX1_init_15 : decode cX1_init 15 = .ok (.newarray .int, 2) := dX1_init_0g.2.2.2.2.2.2.2.2.1
theorem dX1_init_17 : decode cX1_init 17 = .ok (.putfield 15, 3) := dX1_init_0g.2.2.2.2.2.2.2.2.2
theorem dX1_init_20g : (decode cX1_init 20 = .ok (.aload_n 0, 1)) ∧ (decode cX1_init 21 = .ok (.sipush 582, 3)) ∧ (decode cX1_init 24 = .ok (.newarray .int, 2)) ∧ (decode cX1_init 26 = .ok (.putfield 18, 3)) ∧ (decode cX1_init 29 = .ok (.aload_n 0, 1)) ∧ (decode cX1_init 30 = .ok (.bipush 12, 2)) ∧ (decode cX1_init 32 = .ok (.newarray .int, 2)) ∧ (decode cX1_init 34 = .ok (.putfield 21, 3)) ∧ (decode cX1_init 37 = .ok (.aload_n 0, 1)) ∧ (decode cX1_init 38 = .ok (.bipush 12, 2)) := by decide +kernel
theorem dX1_init_20 : decode cX1_init 20 = .ok (.aload_n 0, 1) := dX1_init_20g.1
theorem dX1_init_21 : decode cX1_init 21 = .ok (.sipush 582, 3) := dX1_init_20g.2.1
theorem dX1_init_24 : decode cX1_init 24 = .ok (.newarray .int, 2) := dX1_init_20g.2.2.1
theorem dX1_init_26 : decode cX1_init 26 = .ok (.putfield 18, 3) := dX1_init_20g.2.2.2.1
theorem dX1_init_29 : decode cX1_init 29 = .ok (.aload_n 0, 1) := dX1_init_20g.2.2.2.2.1
theorem dX1_init_30 : decode cX1_init 30 = .ok (.bipush 12, 2) := dX1_init_20g.2.2.2.2.2.1
theorem dX1_init_32 : decode cX1_init 32 = .ok (.newarray .int, 2) := dX1_init_20g.2.2.2.2.2.2.1
theorem dX1_init_34 : decode cX1_init 34 = .ok (.putfield 21, 3) := dX1_init_20g.2.2.2.2.2.2.2.1
theorem dX1_init_37 : decode cX1_init 37 = .ok (.aload_n 0, 1) := dX1_init_20g.2.2.2.2.2.2.2.2.1
theorem dX1_init_38 : decode cX1_init 38 = .ok (.bipush 12, 2) := dX1_init_20g.2.2.2.2.2.2.2.2.2
theorem dX1_init_40g : (decode cX1_init 40 = .ok (.newarray .int, 2)) ∧ (decode cX1_init 42 = .ok (.putfield 24, 3)) ∧ (decode cX1_init 45 = .ok (.aload_n 0, 1)) ∧ (decode cX1_init 46 = .ok (.iconst (-1), 1)) ∧ (decode cX1_init 47 = .ok (.putfield 27, 3)) ∧ (decode cX1_init 50 = .ok (.aload_n 0, 1)) ∧ (decode cX1_init 51 = .ok (.iconst 0, 1)) ∧ (decode cX1_init 52 = .ok (.putfield 31, 3)) ∧ (decode cX1_init 55 = .ok (.aload_n 0, 1)) ∧ (decode cX1_init 56 = .ok (.iconst 1, 1)) := by decide +kernel
theorem dX1_init_40 : decode cX1_init 40 = .ok (.newarray .int, 2) := dX1_init_40g.1
theorem dX1_init_42 : decode cX1_init 42 = .ok (.putfield 24, 3) := dX1_init_40g.2.1
theorem dX1_init_45 : decode cX1_init 45 = .ok (.aload_n 0, 1) := dX1_init_40g.2.2.1
theorem dX1_init_46 : decode cX1_init 46 = .ok (.iconst (-1), 1) := dX1_init_40g.2.2.2.1
theorem dX1_init_47 : decode cX1_init 47 = .ok (.putfield 27, 3) := dX1_init_40g.2.2.2.2.1
theorem dX1_init_50 : decode cX1_init 50 = .ok (.aload_n 0, 1) := dX1_init_40g.2.2.2.2.2.1
theorem dX1_init_51 : decode cX1_init 51 = .ok (.iconst 0, 1) := dX1_init_40g.2.2.2.2.2.2.1
theorem dX1_init_52 : decode cX1_init 52 = .ok (.putfield 31, 3) := dX1_init_40g.2.2.2.2.2.2.2.1
theorem dX1_init_55 : decode cX1_init 55 = .ok (.aload_n 0, 1) := dX1_init_40g.2.2.2.2.2.2.2.2.1
theorem dX1_init_56 : decode cX1_init 56 = .ok (.iconst 1, 1) := dX1_init_40g.2.2.2.2.2.2.2.2.2
theorem dX1_init_57g : (decode cX1_init 57 = .ok (.putfield 34, 3)) ∧ (decode cX1_init 60 = .ok (.aload_n 0, 1)) ∧ (decode cX1_init 61 = .ok (.aload_n 1, 1)) ∧ (decode cX1_init 62 = .ok (.putfield 38, 3)) ∧ (decode cX1_init 65 = .ok (.aload_n 0, 1)) ∧ (decode cX1_init 66 = .ok (.aload_n 2, 1)) ∧ (decode cX1_init 67 = .ok (.putfield 42, 3)) ∧ (decode cX1_init 70 = .ok (.aload_n 0, 1)) ∧ (decode cX1_init 71 = .ok (.aload_n 3, 1)) ∧ (decode cX1_init 72 = .ok (.putfield 46, 3)) := by decide +kernel
theorem dX1_init_57 : decode cX1_init 57 = .ok (.putfield 34, 3) := dX1_init_57g.1
theorem dX1_init_60 : decode cX1_init 60 = .ok (.aload_n 0, 1) := dX1_init_57g.2.1
theorem dX1_init_61 : decode cX1_init 61 = .ok (.aload_n 1, 1) := dX1_init_57g.2.2.1
theorem dX1_init_62 : decode cX1_init 62 = .ok (.putfield 38, 3) := dX1_init_57g.2.2.2.1
theorem dX1_init_65 : decode cX1_init 65 = .ok (.aload_n 0, 1) := dX1_init_57g.2.2.2.2.1
theorem dX1_init_66 : decode cX1_init 66 = .ok (.aload_n 2, 1) := dX1_init_57g.2.2.2.2.2.1
theorem dX1_init_67 : decode cX1_init 67 = .ok (.putfield 42, 3) := dX1_init_57g.2.2.2.2.2.2.1
theorem dX1_init_70 : decode cX1_init 70 = .ok (.aload_n 0, 1) := dX1_init_57g.2.2.2.2.2.2.2.1
theorem dX1_init_71 : decode cX1_init 71 = .ok (.aload_n 3, 1) := dX1_init_57g.2.2.2.2.2.2.2.2.1
theorem dX1_init_72 : decode cX1_init 72 = .ok (.putfield 46, 3) := dX1_init_57g.2.2.2.2.2.2.2.2.2
theorem dX1_init_75 : decode cX1_init 75 = .ok (.return_, 1) := by decide +kernel
set_option maxHeartbeats 4000000 in
set_option maxRecDepth 100000 in
theorem c_X1_init (l : Launch) (E : Nat → Nat) (D : va_G) (Gi : th_G) (h0 sz : Nat) (hn0 : Gi h0 = none) (hE : ∀ k : Nat, (32 + 8 * h0 ≤ k ∧ k < 40 + 8 * h0) ∨ 32 + 8 * sz ≤ k → E k = 0) (p1 : Nat) (hp1 : Gi p1 = some (6, 0)) (p2 : Nat) (hp2 : Gi p2 = some (9, 0)) (p3 : Nat) (hp3 : Gi p3 = some (10, 0)) : Met l yX1_init (tb (.code yX1_init cX1_init 4 none)) ({ frames := 1, cells := 5, slots := 727, locals := 40 } : Room) (va_Pc [.ref h0, .ref p1, .ref p2, .ref p3] (fun U => U.heap.size = sz ∧ th_P E D Gi U ∧ va_at D vwCl (h0, .inr (1, [.null, .null, .null, .null, .null, .null, .null, .null, .int 0, .int 0, .int 0])) U.heap ∧ th_AO U)) (QM E D Gi h0 (11, 0) sz) 5 727 (mA Gi h0 sz) := by
  refine Met.ofW (cc := cX1_init) (maxL := 4) (ret := none) (by decide) rfl ?_
  intro p e s m args below meth c s₁ B hml hv
  obtain ⟨hav, rfl, ⟨hI, hN, hK⟩, hO, hAO⟩ := hv
  have hx := B.exec
  have hb := B.bytes
  have hr := B.returns
  have hts := atoms_spec (ws := tb (.code yX1_init cX1_init 4 none)) B.pre
  have hown : s.vm.findClass RX1 = some m.cls := findClass_of_methodNamed B.named
  have hlocks := B.notSynchronized
  have hin : meth.name = "<init>" := (name_of_methodNamed B.named B.method).1
  have hl := lv_entry ([.ref h0, .ref p1, .ref p2, .ref p3]) (n := 4) (Nat.le_of_ble_eq_true rfl)
  rw [show entryFrame m args 4 = entryFrame m ([.ref h0, .ref p1, .ref p2, .ref p3] : List Value).toArray 4 from by rw [hav], lg_entry_eq]
  generalize (lg_sl ([.ref h0, .ref p1, .ref p2, .ref p3]) ++ List.replicate (4 - (lg_sl ([.ref h0, .ref p1, .ref p2, .ref p3])).length) Slot.unset).toArray = ls at hl ⊢
  have hl : lv_has ls 4 [(0, .ref h0), (1, .ref p1), (2, .ref p2), (3, .ref p3)] := hl
  generalize hR : (headSpec (tb (.code yX1_init cX1_init 4 none)) ({ frames := 1, cells := 5, slots := 727, locals := 40 } : Room)).room = R
  have hR := hR.symm
  generalize hAe : mA Gi h0 s.heap.size = A
  have hA : ∀ q : Nat, s.heap.size ≤ q → A q := fun q h => by rw [← hAe]; exact Or.inr (Or.inr h)
  have hA0 : A h0 := by rw [← hAe]; exact Or.inr (Or.inl rfl)
  have hS : va_S A s.heap s.heap [] := va_S.rf
  obtain ⟨G, hle0, hI, hn0, hAG⟩ : ∃ G, gle Gi G ∧ th_I (okC E) D G [] s.heap ∧ G h0 = none ∧ (∀ (r : Nat) (k : th_K), G r = some k → A r) := ⟨Gi, gle.rf, hI, hn0, fun r k h => by rw [← hAe]; exact Or.inl ⟨k, h⟩⟩
  have hp1 := hle0 _ _ hp1
  have hp2 := hle0 _ _ hp2
  have hp3 := hle0 _ _ hp3
  refine lv_aload_n hx hb dX1_init_0 rfl (lv_at hl 0 rfl) ?_
  refine W.objInit hx hb hown (hts _ (tb_c wd_235)) (hts _ (tb_c wd_28)) (hts _ (tb_c wd_oinit)) rfl (by rw [hml]; exact hl.1) rfl dX1_init_1 (by rw [hR]; exact Nat.le_of_ble_eq_true rfl) (by rw [hR]; exact Nat.le_of_ble_eq_true rfl) ?_
  refine W.eq (g2 := F0 m 4 ls []) rfl ?_
  refine lv_aload_n hx hb dX1_init_4 rfl (lv_at hl 0 rfl) ?_
  refine lv_bipush (v := 24) hx hb dX1_init_5 (by decide) ?_
  refine th_newi hx hb (hts _ (tb_c wd_55)) hK hI hS hA hAG 24 (by decide) (by decide) (by decide) (by rw [hR]; exact Nat.le_of_ble_eq_true rfl) (by rw [hR]; exact Nat.le_of_ble_eq_true rfl) dX1_init_7 (fun G a1 H hle hq2 hAG hqe hGne o1 hI hS => ?_)
  have hlt0 : h0 < _ := hO.lt
  have hn0 : G h0 = none := (hGne h0 (by omega)).trans hn0
  have hO := hO.kept (o1 _ hlt0)
  have hp1 := hle _ _ hp1
  have hp2 := hle _ _ hp2
  have hp3 := hle _ _ hp3
  have hle0 := hle0.tr hle
  refine th_putF (ty := (.array .int)) hx hb hts inT1 tyX1 tyX1_ok nmX1 hown hK hO hS hA0 rfl 3 (by decide) (hts _ (tb_c wd_239)) rfl hin rfl (by decide +kernel) rfl rfl (Nat.le_of_ble_eq_true rfl) dX1_init_9 (fun H locs hO oq hS => ?_)
  have hI := th_raw hI hn0 oq
  have hO : va_at D vwCl (h0, .inr (1, [.null, .null, .null, .ref a1, .null, .null, .null, .null, .int 0, .int 0, .int 0])) H := hO
  refine lv_aload_n hx hb dX1_init_12 rfl (lv_at hl 0 rfl) ?_
  refine lv_bipush (v := 97) hx hb dX1_init_13 (by decide) ?_
  refine th_newi hx hb (hts _ (tb_c wd_55)) hK hI hS hA hAG 97 (by decide) (by decide) (by decide) (by rw [hR]; exact Nat.le_of_ble_eq_true rfl) (by rw [hR]; exact Nat.le_of_ble_eq_true rfl) dX1_init_15 (fun G a3 H hle hq4 hAG hqe hGne o1 hI hS => ?_)
  have hlt0 : h0 < _ := hO.lt
  have hn0 : G h0 = none := (hGne h0 (by omega)).trans hn0
  have hO := hO.kept (o1 _ hlt0)
  have hp1 := hle _ _ hp1
  have hp2 := hle _ _ hp2
  have hp3 := hle _ _ hp3
  have hq2 := hle _ _ hq2
  have hle0 := hle0.tr hle
  refine th_putF (ty := (.array .int)) hx hb hts inT1 tyX1 tyX1_ok nmX1 hown hK hO hS hA0 rfl 4 (by decide) (hts _ (tb_c wd_240)) rfl hin rfl (by decide +kernel) rfl rfl (Nat.le_of_ble_eq_true rfl) dX1_init_17 (fun H locs hO oq hS => ?_)
  have hI := th_raw hI hn0 oq
  have hO : va_at D vwCl (h0, .inr (1, [.null, .null, .null, .ref a1, .ref a3, .null, .null, .null, .int 0, .int 0, .int 0])) H := hO
  refine lv_aload_n hx hb dX1_init_20 rfl (lv_at hl 0 rfl) ?_
  refine lv_sipush (v := 582) hx hb dX1_init_21 (by decide) ?_
  refine th_newi hx hb (hts _ (tb_c wd_55)) hK hI hS hA hAG 582 (by decide) (by decide) (by decide) (by rw [hR]; exact Nat.le_of_ble_eq_true rfl) (by rw [hR]; exact Nat.le_of_ble_eq_true rfl) dX1_init_24 (fun G a5 H hle hq6 hAG hqe hGne o1 hI hS => ?_)
  have hlt0 : h0 < _ := hO.lt
  have hn0 : G h0 = none := (hGne h0 (by omega)).trans hn0
  have hO := hO.kept (o1 _ hlt0)
  have hp1 := hle _ _ hp1
  have hp2 := hle _ _ hp2
  have hp3 := hle _ _ hp3
  have hq2 := hle _ _ hq2
  have hq4 := hle _ _ hq4
  have hle0 := hle0.tr hle
  refine th_putF (ty := (.array .int)) hx hb hts inT1 tyX1 tyX1_ok nmX1 hown hK hO hS hA0 rfl 5 (by decide) (hts _ (tb_c wd_241)) rfl hin rfl (by decide +kernel) rfl rfl (Nat.le_of_ble_eq_true rfl) dX1_init_26 (fun H locs hO oq hS => ?_)
  have hI := th_raw hI hn0 oq
  have hO : va_at D vwCl (h0, .inr (1, [.null, .null, .null, .ref a1, .ref a3, .ref a5, .null, .null, .int 0, .int 0, .int 0])) H := hO
  refine lv_aload_n hx hb dX1_init_29 rfl (lv_at hl 0 rfl) ?_
  refine lv_bipush (v := 12) hx hb dX1_init_30 (by decide) ?_
  refine th_newi hx hb (hts _ (tb_c wd_55)) hK hI hS hA hAG 12 (by decide) (by decide) (by decide) (by rw [hR]; exact Nat.le_of_ble_eq_true rfl) (by rw [hR]; exact Nat.le_of_ble_eq_true rfl) dX1_init_32 (fun G a7 H hle hq8 hAG hqe hGne o1 hI hS => ?_)
  have hlt0 : h0 < _ := hO.lt
  have hn0 : G h0 = none := (hGne h0 (by omega)).trans hn0
  have hO := hO.kept (o1 _ hlt0)
  have hp1 := hle _ _ hp1
  have hp2 := hle _ _ hp2
  have hp3 := hle _ _ hp3
  have hq2 := hle _ _ hq2
  have hq4 := hle _ _ hq4
  have hq6 := hle _ _ hq6
  have hle0 := hle0.tr hle
  refine th_putF (ty := (.array .int)) hx hb hts inT1 tyX1 tyX1_ok nmX1 hown hK hO hS hA0 rfl 6 (by decide) (hts _ (tb_c wd_242)) rfl hin rfl (by decide +kernel) rfl rfl (Nat.le_of_ble_eq_true rfl) dX1_init_34 (fun H locs hO oq hS => ?_)
  have hI := th_raw hI hn0 oq
  have hO : va_at D vwCl (h0, .inr (1, [.null, .null, .null, .ref a1, .ref a3, .ref a5, .ref a7, .null, .int 0, .int 0, .int 0])) H := hO
  refine lv_aload_n hx hb dX1_init_37 rfl (lv_at hl 0 rfl) ?_
  refine lv_bipush (v := 12) hx hb dX1_init_38 (by decide) ?_
  refine th_newi hx hb (hts _ (tb_c wd_55)) hK hI hS hA hAG 12 (by decide) (by decide) (by decide) (by rw [hR]; exact Nat.le_of_ble_eq_true rfl) (by rw [hR]; exact Nat.le_of_ble_eq_true rfl) dX1_init_40 (fun G a9 H hle hq10 hAG hqe hGne o1 hI hS => ?_)
  have hlt0 : h0 < _ := hO.lt
  have hn0 : G h0 = none := (hGne h0 (by omega)).trans hn0
  have hO := hO.kept (o1 _ hlt0)
  have hp1 := hle _ _ hp1
  have hp2 := hle _ _ hp2
  have hp3 := hle _ _ hp3
  have hq2 := hle _ _ hq2
  have hq4 := hle _ _ hq4
  have hq6 := hle _ _ hq6
  have hq8 := hle _ _ hq8
  have hle0 := hle0.tr hle
  refine th_putF (ty := (.array .int)) hx hb hts inT1 tyX1 tyX1_ok nmX1 hown hK hO hS hA0 rfl 7 (by decide) (hts _ (tb_c wd_243)) rfl hin rfl (by decide +kernel) rfl rfl (Nat.le_of_ble_eq_true rfl) dX1_init_42 (fun H locs hO oq hS => ?_)
  have hI := th_raw hI hn0 oq
  have hO : va_at D vwCl (h0, .inr (1, [.null, .null, .null, .ref a1, .ref a3, .ref a5, .ref a7, .ref a9, .int 0, .int 0, .int 0])) H := hO
  refine lv_aload_n hx hb dX1_init_45 rfl (lv_at hl 0 rfl) ?_
  refine lv_iconst (v := (-1)) hx hb dX1_init_46 (by decide) ?_
  refine th_put (ty := .int) hx hb hts inT1 tyX1 tyX1_ok nmX1 hown hK hO hS hA0 rfl 8 (by decide) (hts _ (tb_c wd_244)) rfl rfl (by decide +kernel) rfl rfl (Nat.le_of_ble_eq_true rfl) dX1_init_47 (fun H locs hO oq hS => ?_)
  have hI := th_raw hI hn0 oq
  have hO : va_at D vwCl (h0, .inr (1, [.null, .null, .null, .ref a1, .ref a3, .ref a5, .ref a7, .ref a9, .int (-1), .int 0, .int 0])) H := hO
  refine lv_aload_n hx hb dX1_init_50 rfl (lv_at hl 0 rfl) ?_
  refine lv_iconst (v := 0) hx hb dX1_init_51 (by decide) ?_
  refine th_put (ty := .int) hx hb hts inT1 tyX1 tyX1_ok nmX1 hown hK hO hS hA0 rfl 9 (by decide) (hts _ (tb_c wd_245)) rfl rfl (by decide +kernel) rfl rfl (Nat.le_of_ble_eq_true rfl) dX1_init_52 (fun H locs hO oq hS => ?_)
  have hI := th_raw hI hn0 oq
  have hO : va_at D vwCl (h0, .inr (1, [.null, .null, .null, .ref a1, .ref a3, .ref a5, .ref a7, .ref a9, .int (-1), .int 0, .int 0])) H := hO
  refine lv_aload_n hx hb dX1_init_55 rfl (lv_at hl 0 rfl) ?_
  refine lv_iconst (v := 1) hx hb dX1_init_56 (by decide) ?_
  refine th_put (ty := .boolean) hx hb hts inT1 tyX1 tyX1_ok nmX1 hown hK hO hS hA0 rfl 10 (by decide) (hts _ (tb_c wd_246)) rfl rfl (by decide +kernel) (by decide) rfl (Nat.le_of_ble_eq_true rfl) dX1_init_57 (fun H locs hO oq hS => ?_)
  have hI := th_raw hI hn0 oq
  have hO : va_at D vwCl (h0, .inr (1, [.null, .null, .null, .ref a1, .ref a3, .ref a5, .ref a7, .ref a9, .int (-1), .int 0, .int 1])) H := hO
  refine lv_aload_n hx hb dX1_init_60 rfl (lv_at hl 0 rfl) ?_
  refine lv_aload_n hx hb dX1_init_61 rfl (lv_at hl 1 rfl) ?_
  refine th_putF (ty := (.object "NineRiver$State")) hx hb hts inT1 tyX1 tyX1_ok nmX1 hown hK hO hS hA0 rfl 0 (by decide) (hts _ (tb_c wd_236)) rfl hin rfl (by decide +kernel) rfl rfl (Nat.le_of_ble_eq_true rfl) dX1_init_62 (fun H locs hO oq hS => ?_)
  have hI := th_raw hI hn0 oq
  have hO : va_at D vwCl (h0, .inr (1, [.ref p1, .null, .null, .ref a1, .ref a3, .ref a5, .ref a7, .ref a9, .int (-1), .int 0, .int 1])) H := hO
  refine lv_aload_n hx hb dX1_init_65 rfl (lv_at hl 0 rfl) ?_
  refine lv_aload_n hx hb dX1_init_66 rfl (lv_at hl 2 rfl) ?_
  refine th_putF (ty := (.object "NineRiver$Stream")) hx hb hts inT1 tyX1 tyX1_ok nmX1 hown hK hO hS hA0 rfl 1 (by decide) (hts _ (tb_c wd_237)) rfl hin rfl (by decide +kernel) rfl rfl (Nat.le_of_ble_eq_true rfl) dX1_init_67 (fun H locs hO oq hS => ?_)
  have hI := th_raw hI hn0 oq
  have hO : va_at D vwCl (h0, .inr (1, [.ref p1, .ref p2, .null, .ref a1, .ref a3, .ref a5, .ref a7, .ref a9, .int (-1), .int 0, .int 1])) H := hO
  refine lv_aload_n hx hb dX1_init_70 rfl (lv_at hl 0 rfl) ?_
  refine lv_aload_n hx hb dX1_init_71 rfl (lv_at hl 3 rfl) ?_
  refine th_putF (ty := (.object "NineRiver$Travel")) hx hb hts inT1 tyX1 tyX1_ok nmX1 hown hK hO hS hA0 rfl 2 (by decide) (hts _ (tb_c wd_238)) rfl hin rfl (by decide +kernel) rfl rfl (Nat.le_of_ble_eq_true rfl) dX1_init_72 (fun H locs hO oq hS => ?_)
  have hI := th_raw hI hn0 oq
  have hO : va_at D vwCl (h0, .inr (1, [.ref p1, .ref p2, .ref p3, .ref a1, .ref a3, .ref a5, .ref a7, .ref a9, .int (-1), .int 0, .int 1])) H := hO
  have hO : va_at D vwCl (h0, .inr (1, [.ref p1, .ref p2, .ref p3, .ref a1, .ref a3, .ref a5, .ref a7, .ref a9, .int (-1), .int 0, .int 1])) H := hO
  have hI := th_type (k := (11, 0)) hI hn0 hO (ok_11 (gx_le hn0 _ _ hp1) (gx_le hn0 _ _ hp2) (gx_le hn0 _ _ hp3) (gx_le hn0 _ _ hq2) (gx_le hn0 _ _ hq4) (gx_le hn0 _ _ hq6) (gx_le hn0 _ _ hq8) (gx_le hn0 _ _ hq10))
  refine W.widen (k := 5) (n := 727) (Nat.le_of_ble_eq_true rfl) (Nat.le_of_ble_eq_true rfl) ?_
  rw [← hAe] at hS ⊢
  exact W.vret hx hb hr (fun t ht hW => ⟨⟨gx G h0 (11, 0), rfl, ⟨hle0.tr (gx_le hn0), gx_a, fun r k hr => mA_new (hAe ▸ hAG) hle0 hr⟩, by rw [ht]; exact hI, hN.warm hW, va_K.moved hW.alike hK⟩, hS.F ht⟩) hS.2.2 dX1_init_75
theorem dX5_init_0g : (decode cX5_init 0 = .ok (.aload_n 0, 1)) ∧ (decode cX5_init 1 = .ok (.invokespecial 5, 3)) ∧ (decode cX5_init 4 = .ok (.aload_n 0, 1)) ∧ (decode cX5_init 5 = .ok (.sipush 2304, 3)) ∧ (decode cX5_init 8 = .ok (.newarray .int, 2)) ∧ (decode cX5_init 10 = .ok (.putfield 11, 3)) ∧ (decode cX5_init 13 = .ok (.aload_n 0, 1)) ∧ (decode cX5_init 14 = .ok (.sipush 1024, 3)) ∧ (decode cX5_init 17 = .ok (.newarray .long, 2)) ∧ (decode cX5_init 19 = .ok (.putfield 15, 3)) := by decide +kernel
theorem dX5_init_0 : decode cX5_init 0 = .ok (.aload_n 0, 1) := dX5_init_0g.1
theorem dX5_init_1 : decode cX5_init 1 = .ok (.invokespecial 5, 3) := dX5_init_0g.2.1
theorem dX5_init_4 : decode cX5_init 4 = .ok (.aload_n 0, 1) := dX5_init_0g.2.2.1
theorem dX5_init_5 : decode cX5_init 5 = .ok (.sipush 2304, 3) := dX5_init_0g.2.2.2.1
theorem dX5_init_8 : decode cX5_init 8 = .ok (.newarray .int, 2) := dX5_init_0g.2.2.2.2.1
theorem dX5_init_10 : decode cX5_init 10 = .ok (.putfield 11, 3) := dX5_init_0g.2.2.2.2.2.1
theorem dX5_init_13 : decode cX5_init 13 = .ok (.aload_n 0, 1) := dX5_init_0g.2.2.2.2.2.2.1
theorem dX5_init_14 : decode cX5_init 14 = .ok (.sipush 1024, 3) := dX5_init_0g.2.2.2.2.2.2.2.1
theorem dX5_init_17 : decode cX5_init 17 = .ok (.newarray .long, 2) := dX5_init_0g.2.2.2.2.2.2.2.2.1
theorem dX5_init_19 : decode cX5_init 19 = .ok (.putfield 15, 3) := dX5_init_0g.2.2.2.2.2.2.2.2.2
theorem dX5_init_22g : (decode cX5_init 22 = .ok (.aload_n 0, 1)) ∧ (decode cX5_init 23 = .ok (.iconst (-1), 1)) ∧ (decode cX5_init 24 = .ok (.putfield 19, 3)) ∧ (decode cX5_init 27 = .ok (.aload_n 0, 1)) ∧ (decode cX5_init 28 = .ok (.iconst 0, 1)) ∧ (decode cX5_init 29 = .ok (.putfield 23, 3)) ∧ (decode cX5_init 32 = .ok (.aload_n 0, 1)) ∧ (decode cX5_init 33 = .ok (.aload_n 1, 1)) ∧ (decode cX5_init 34 = .ok (.putfield 26, 3)) ∧ (decode cX5_init 37 = .ok (.aload_n 0, 1)) := by decide +kernel
theorem dX5_init_22 : decode cX5_init 22 = .ok (.aload_n 0, 1) := dX5_init_22g.1
theorem dX5_init_23 : decode cX5_init 23 = .ok (.iconst (-1), 1) := dX5_init_22g.2.1
theorem dX5_init_24 : decode cX5_init 24 = .ok (.putfield 19, 3) := dX5_init_22g.2.2.1
theorem dX5_init_27 : decode cX5_init 27 = .ok (.aload_n 0, 1) := dX5_init_22g.2.2.2.1
theorem dX5_init_28 : decode cX5_init 28 = .ok (.iconst 0, 1) := dX5_init_22g.2.2.2.2.1
theorem dX5_init_29 : decode cX5_init 29 = .ok (.putfield 23, 3) := dX5_init_22g.2.2.2.2.2.1
theorem dX5_init_32 : decode cX5_init 32 = .ok (.aload_n 0, 1) := dX5_init_22g.2.2.2.2.2.2.1
theorem dX5_init_33 : decode cX5_init 33 = .ok (.aload_n 1, 1) := dX5_init_22g.2.2.2.2.2.2.2.1
theorem dX5_init_34 : decode cX5_init 34 = .ok (.putfield 26, 3) := dX5_init_22g.2.2.2.2.2.2.2.2.1
theorem dX5_init_37 : decode cX5_init 37 = .ok (.aload_n 0, 1) := dX5_init_22g.2.2.2.2.2.2.2.2.2
theorem dX5_init_38g : (decode cX5_init 38 = .ok (.aload_n 2, 1)) ∧ (decode cX5_init 39 = .ok (.putfield 30, 3)) ∧ (decode cX5_init 42 = .ok (.return_, 1)) := by decide +kernel
theorem dX5_init_38 : decode cX5_init 38 = .ok (.aload_n 2, 1) := dX5_init_38g.1
theorem dX5_init_39 : decode cX5_init 39 = .ok (.putfield 30, 3) := dX5_init_38g.2.1
theorem dX5_init_42 : decode cX5_init 42 = .ok (.return_, 1) := dX5_init_38g.2.2
set_option maxHeartbeats 4000000 in
set_option maxRecDepth 100000 in
theorem c_X5_init (l : Launch) (E : Nat → Nat) (D : va_G) (Gi : th_G) (h0 sz : Nat) (hn0 : Gi h0 = none) (hE : ∀ k : Nat, (32 + 8 * h0 ≤ k ∧ k < 40 + 8 * h0) ∨ 32 + 8 * sz ≤ k → E k = 0) (p1 : Nat) (hp1 : Gi p1 = some (6, 0)) (p2 : Nat) (hp2 : Gi p2 = some (10, 0)) : Met l yX5_init (tb (.code yX5_init cX5_init 3 none)) ({ frames := 1, cells := 2, slots := 3328, locals := 40 } : Room) (va_Pc [.ref h0, .ref p1, .ref p2] (fun U => U.heap.size = sz ∧ th_P E D Gi U ∧ va_at D vwCl (h0, .inr (5, [.null, .null, .null, .null, .int 0, .int 0])) U.heap ∧ th_AO U)) (QM E D Gi h0 (12, 0) sz) 2 3328 (mA Gi h0 sz) := by
  refine Met.ofW (cc := cX5_init) (maxL := 3) (ret := none) (by decide) rfl ?_
  intro p e s m args below meth c s₁ B hml hv
  obtain ⟨hav, rfl, ⟨hI, hN, hK⟩, hO, hAO⟩ := hv
  have hx := B.exec
  have hb := B.bytes
  have hr := B.returns
  have hts := atoms_spec (ws := tb (.code yX5_init cX5_init 3 none)) B.pre
  have hown : s.vm.findClass RX5 = some m.cls := findClass_of_methodNamed B.named
  have hlocks := B.notSynchronized
  have hin : meth.name = "<init>" := (name_of_methodNamed B.named B.method).1
  have hl := lv_entry ([.ref h0, .ref p1, .ref p2]) (n := 3) (Nat.le_of_ble_eq_true rfl)
  rw [show entryFrame m args 3 = entryFrame m ([.ref h0, .ref p1, .ref p2] : List Value).toArray 3 from by rw [hav], lg_entry_eq]
  generalize (lg_sl ([.ref h0, .ref p1, .ref p2]) ++ List.replicate (3 - (lg_sl ([.ref h0, .ref p1, .ref p2])).length) Slot.unset).toArray = ls at hl ⊢
  have hl : lv_has ls 3 [(0, .ref h0), (1, .ref p1), (2, .ref p2)] := hl
  generalize hR : (headSpec (tb (.code yX5_init cX5_init 3 none)) ({ frames := 1, cells := 2, slots := 3328, locals := 40 } : Room)).room = R
  have hR := hR.symm
  generalize hAe : mA Gi h0 s.heap.size = A
  have hA : ∀ q : Nat, s.heap.size ≤ q → A q := fun q h => by rw [← hAe]; exact Or.inr (Or.inr h)
  have hA0 : A h0 := by rw [← hAe]; exact Or.inr (Or.inl rfl)
  have hS : va_S A s.heap s.heap [] := va_S.rf
  obtain ⟨G, hle0, hI, hn0, hAG⟩ : ∃ G, gle Gi G ∧ th_I (okC E) D G [] s.heap ∧ G h0 = none ∧ (∀ (r : Nat) (k : th_K), G r = some k → A r) := ⟨Gi, gle.rf, hI, hn0, fun r k h => by rw [← hAe]; exact Or.inl ⟨k, h⟩⟩
  have hp1 := hle0 _ _ hp1
  have hp2 := hle0 _ _ hp2
  refine lv_aload_n hx hb dX5_init_0 rfl (lv_at hl 0 rfl) ?_
  refine W.objInit hx hb hown (hts _ (tb_c wd_275)) (hts _ (tb_c wd_28)) (hts _ (tb_c wd_oinit)) rfl (by rw [hml]; exact hl.1) rfl dX5_init_1 (by rw [hR]; exact Nat.le_of_ble_eq_true rfl) (by rw [hR]; exact Nat.le_of_ble_eq_true rfl) ?_
  refine W.eq (g2 := F0 m 4 ls []) rfl ?_
  refine lv_aload_n hx hb dX5_init_4 rfl (lv_at hl 0 rfl) ?_
  refine lv_sipush (v := 2304) hx hb dX5_init_5 (by decide) ?_
  refine th_newi hx hb (hts _ (tb_c wd_55)) hK hI hS hA hAG 2304 (by decide) (by decide) (by decide) (by rw [hR]; exact Nat.le_of_ble_eq_true rfl) (by rw [hR]; exact Nat.le_of_ble_eq_true rfl) dX5_init_8 (fun G a1 H hle hq2 hAG hqe hGne o1 hI hS => ?_)
  have hlt0 : h0 < _ := hO.lt
  have hn0 : G h0 = none := (hGne h0 (by omega)).trans hn0
  have hO := hO.kept (o1 _ hlt0)
  have hp1 := hle _ _ hp1
  have hp2 := hle _ _ hp2
  have hle0 := hle0.tr hle
  refine th_putF (ty := (.array .int)) hx hb hts inT5 tyX5 tyX5_ok nmX5 hown hK hO hS hA0 rfl 2 (by decide) (hts _ (tb_c wd_278)) rfl hin rfl (by decide +kernel) rfl rfl (Nat.le_of_ble_eq_true rfl) dX5_init_10 (fun H locs hO oq hS => ?_)
  have hI := th_raw hI hn0 oq
  have hO : va_at D vwCl (h0, .inr (5, [.null, .null, .ref a1, .null, .int 0, .int 0])) H := hO
  refine lv_aload_n hx hb dX5_init_13 rfl (lv_at hl 0 rfl) ?_
  refine lv_sipush (v := 1024) hx hb dX5_init_14 (by decide) ?_
  refine th_newl hx hb (hts _ (tb_c wd_188)) hK hI hS hA hAG 1024 (by decide) (by decide) (by decide) (by rw [hR]; exact Nat.le_of_ble_eq_true rfl) (by rw [hR]; exact Nat.le_of_ble_eq_true rfl) dX5_init_17 (fun G a3 H hle hq4 hAG hqe hGne o1 hI hS => ?_)
  have hlt0 : h0 < _ := hO.lt
  have hn0 : G h0 = none := (hGne h0 (by omega)).trans hn0
  have hO := hO.kept (o1 _ hlt0)
  have hp1 := hle _ _ hp1
  have hp2 := hle _ _ hp2
  have hq2 := hle _ _ hq2
  have hle0 := hle0.tr hle
  refine th_putF (ty := (.array .long)) hx hb hts inT5 tyX5 tyX5_ok nmX5 hown hK hO hS hA0 rfl 3 (by decide) (hts _ (tb_c wd_279)) rfl hin rfl (by decide +kernel) rfl rfl (Nat.le_of_ble_eq_true rfl) dX5_init_19 (fun H locs hO oq hS => ?_)
  have hI := th_raw hI hn0 oq
  have hO : va_at D vwCl (h0, .inr (5, [.null, .null, .ref a1, .ref a3, .int 0, .int 0])) H := hO
  refine lv_aload_n hx hb dX5_init_22 rfl (lv_at hl 0 rfl) ?_
  refine lv_iconst (v := (-1)) hx hb dX5_init_23 (by decide) ?_
  refine th_put (ty := .int) hx hb hts inT5 tyX5 tyX5_ok nmX5 hown hK hO hS hA0 rfl 4 (by decide) (hts _ (tb_c wd_280)) rfl rfl (by decide +kernel) rfl rfl (Nat.le_of_ble_eq_true rfl) dX5_init_24 (fun H locs hO oq hS => ?_)
  have hI := th_raw hI hn0 oq
  have hO : va_at D vwCl (h0, .inr (5, [.null, .null, .ref a1, .ref a3, .int (-1), .int 0])) H := hO
  refine lv_aload_n hx hb dX5_init_27 rfl (lv_at hl 0 rfl) ?_
  refine lv_iconst (v := 0) hx hb dX5_init_28 (by decide) ?_
  refine th_put (ty := .int) hx hb hts inT5 tyX5 tyX5_ok nmX5 hown hK hO hS hA0 rfl 5 (by decide) (hts _ (tb_c wd_281)) rfl rfl (by decide +kernel) rfl rfl (Nat.le_of_ble_eq_true rfl) dX5_init_29 (fun H locs hO oq hS => ?_)
  have hI := th_raw hI hn0 oq
  have hO : va_at D vwCl (h0, .inr (5, [.null, .null, .ref a1, .ref a3, .int (-1), .int 0])) H := hO
  refine lv_aload_n hx hb dX5_init_32 rfl (lv_at hl 0 rfl) ?_
  refine lv_aload_n hx hb dX5_init_33 rfl (lv_at hl 1 rfl) ?_
  refine th_putF (ty := (.object "NineRiver$State")) hx hb hts inT5 tyX5 tyX5_ok nmX5 hown hK hO hS hA0 rfl 0 (by decide) (hts _ (tb_c wd_276)) rfl hin rfl (by decide +kernel) rfl rfl (Nat.le_of_ble_eq_true rfl) dX5_init_34 (fun H locs hO oq hS => ?_)
  have hI := th_raw hI hn0 oq
  have hO : va_at D vwCl (h0, .inr (5, [.ref p1, .null, .ref a1, .ref a3, .int (-1), .int 0])) H := hO
  refine lv_aload_n hx hb dX5_init_37 rfl (lv_at hl 0 rfl) ?_
  refine lv_aload_n hx hb dX5_init_38 rfl (lv_at hl 2 rfl) ?_
  refine th_putF (ty := (.object "NineRiver$Travel")) hx hb hts inT5 tyX5 tyX5_ok nmX5 hown hK hO hS hA0 rfl 1 (by decide) (hts _ (tb_c wd_277)) rfl hin rfl (by decide +kernel) rfl rfl (Nat.le_of_ble_eq_true rfl) dX5_init_39 (fun H locs hO oq hS => ?_)
  have hI := th_raw hI hn0 oq
  have hO : va_at D vwCl (h0, .inr (5, [.ref p1, .ref p2, .ref a1, .ref a3, .int (-1), .int 0])) H := hO
  have hO : va_at D vwCl (h0, .inr (5, [.ref p1, .ref p2, .ref a1, .ref a3, .int (-1), .int 0])) H := hO
  have hI := th_type (k := (12, 0)) hI hn0 hO (ok_12 (gx_le hn0 _ _ hp1) (gx_le hn0 _ _ hp2) (gx_le hn0 _ _ hq2) (gx_le hn0 _ _ hq4))
  refine W.widen (k := 2) (n := 3328) (Nat.le_of_ble_eq_true rfl) (Nat.le_of_ble_eq_true rfl) ?_
  rw [← hAe] at hS ⊢
  exact W.vret hx hb hr (fun t ht hW => ⟨⟨gx G h0 (12, 0), rfl, ⟨hle0.tr (gx_le hn0), gx_a, fun r k hr => mA_new (hAe ▸ hAG) hle0 hr⟩, by rw [ht]; exact hI, hN.warm hW, va_K.moved hW.alike hK⟩, hS.F ht⟩) hS.2.2 dX5_init_42
theorem dX8_init_0g : (decode cX8_init 0 = .ok (.aload_n 0, 1)) ∧ (decode cX8_init 1 = .ok (.invokespecial 3, 3)) ∧ (decode cX8_init 4 = .ok (.aload_n 0, 1)) ∧ (decode cX8_init 5 = .ok (.bipush 25, 2)) ∧ (decode cX8_init 7 = .ok (.newarray .int, 2)) ∧ (decode cX8_init 9 = .ok (.putfield 9, 3)) ∧ (decode cX8_init 12 = .ok (.aload_n 0, 1)) ∧ (decode cX8_init 13 = .ok (.bipush 25, 2)) ∧ (decode cX8_init 15 = .ok (.newarray .int, 2)) ∧ (decode cX8_init 17 = .ok (.putfield 15, 3)) := by decide +kernel
theorem dX8_init_0 : decode cX8_init 0 = .ok (.aload_n 0, 1) := dX8_init_0g.1
theorem dX8_init_1 : decode cX8_init 1 = .ok (.invokespecial 3, 3) := dX8_init_0g.2.1
theorem dX8_init_4 : decode cX8_init 4 = .ok (.aload_n 0, 1) := dX8_init_0g.2.2.1
theorem dX8_init_5 : decode cX8_init 5 = .ok (.bipush 25, 2) := dX8_init_0g.2.2.2.1
theorem dX8_init_7 : decode cX8_init 7 = .ok (.newarray .int, 2) := dX8_init_0g.2.2.2.2.1
theorem dX8_init_9 : decode cX8_init 9 = .ok (.putfield 9, 3) := dX8_init_0g.2.2.2.2.2.1
theorem dX8_init_12 : decode cX8_init 12 = .ok (.aload_n 0, 1) := dX8_init_0g.2.2.2.2.2.2.1
theorem dX8_init_13 : decode cX8_init 13 = .ok (.bipush 25, 2) := dX8_init_0g.2.2.2.2.2.2.2.1
theorem dX8_init_15 : decode cX8_init 15 = .ok (.newarray .int, 2) := dX8_init_0g.2.2.2.2.2.2.2.2.1
theorem dX8_init_17 : decode cX8_init 17 = .ok (.putfield 15, 3) := dX8_init_0g.2.2.2.2.2.2.2.2.2
theorem dX8_init_20g : (decode cX8_init 20 = .ok (.aload_n 0, 1)) ∧ (decode cX8_init 21 = .ok (.bipush 25, 2)) ∧ (decode cX8_init 23 = .ok (.newarray .int, 2)) ∧ (decode cX8_init 25 = .ok (.putfield 18, 3)) ∧ (decode cX8_init 28 = .ok (.aload_n 0, 1)) ∧ (decode cX8_init 29 = .ok (.bipush 97, 2)) ∧ (decode cX8_init 31 = .ok (.newarray .int, 2)) ∧ (decode cX8_init 33 = .ok (.putfield 21, 3)) ∧ (decode cX8_init 36 = .ok (.aload_n 0, 1)) ∧ (decode cX8_init 37 = .ok (.iconst 4, 1)) := by decide +kernel
theorem dX8_init_20 : decode cX8_init 20 = .ok (.aload_n 0, 1) := dX8_init_20g.1
theorem dX8_init_21 : decode cX8_init 21 = .ok (.bipush 25, 2) := dX8_init_20g.2.1
theorem dX8_init_23 : decode cX8_init 23 = .ok (.newarray .int, 2) := dX8_init_20g.2.2.1
theorem dX8_init_25 : decode cX8_init 25 = .ok (.putfield 18, 3) := dX8_init_20g.2.2.2.1
theorem dX8_init_28 : decode cX8_init 28 = .ok (.aload_n 0, 1) := dX8_init_20g.2.2.2.2.1
theorem dX8_init_29 : decode cX8_init 29 = .ok (.bipush 97, 2) := dX8_init_20g.2.2.2.2.2.1
theorem dX8_init_31 : decode cX8_init 31 = .ok (.newarray .int, 2) := dX8_init_20g.2.2.2.2.2.2.1
theorem dX8_init_33 : decode cX8_init 33 = .ok (.putfield 21, 3) := dX8_init_20g.2.2.2.2.2.2.2.1
theorem dX8_init_36 : decode cX8_init 36 = .ok (.aload_n 0, 1) := dX8_init_20g.2.2.2.2.2.2.2.2.1
theorem dX8_init_37 : decode cX8_init 37 = .ok (.iconst 4, 1) := dX8_init_20g.2.2.2.2.2.2.2.2.2
theorem dX8_init_38g : (decode cX8_init 38 = .ok (.newarray .int, 2)) ∧ (decode cX8_init 40 = .ok (.putfield 24, 3)) ∧ (decode cX8_init 43 = .ok (.aload_n 0, 1)) ∧ (decode cX8_init 44 = .ok (.aload_n 1, 1)) ∧ (decode cX8_init 45 = .ok (.putfield 27, 3)) ∧ (decode cX8_init 48 = .ok (.return_, 1)) := by decide +kernel
theorem dX8_init_38 : decode cX8_init 38 = .ok (.newarray .int, 2) := dX8_init_38g.1
theorem dX8_init_40 : decode cX8_init 40 = .ok (.putfield 24, 3) := dX8_init_38g.2.1
theorem dX8_init_43 : decode cX8_init 43 = .ok (.aload_n 0, 1) := dX8_init_38g.2.2.1
theorem dX8_init_44 : decode cX8_init 44 = .ok (.aload_n 1, 1) := dX8_init_38g.2.2.2.1
theorem dX8_init_45 : decode cX8_init 45 = .ok (.putfield 27, 3) := dX8_init_38g.2.2.2.2.1
theorem dX8_init_48 : decode cX8_init 48 = .ok (.return_, 1) := dX8_init_38g.2.2.2.2.2
set_option maxHeartbeats 4000000 in
set_option maxRecDepth 100000 in
theorem c_X8_init (l : Launch) (E : Nat → Nat) (D : va_G) (Gi : th_G) (h0 sz : Nat) (hn0 : Gi h0 = none) (hE : ∀ k : Nat, (32 + 8 * h0 ≤ k ∧ k < 40 + 8 * h0) ∨ 32 + 8 * sz ≤ k → E k = 0) (p1 : Nat) (hp1 : Gi p1 = some (9, 0)) : Met l yX8_init (tb (.code yX8_init cX8_init 2 none)) ({ frames := 1, cells := 5, slots := 176, locals := 40 } : Room) (va_Pc [.ref h0, .ref p1] (fun U => U.heap.size = sz ∧ th_P E D Gi U ∧ va_at D vwCl (h0, .inr (8, [.null, .null, .null, .null, .null, .null])) U.heap ∧ th_AO U)) (QM E D Gi h0 (13, 0) sz) 5 176 (mA Gi h0 sz) := by
  refine Met.ofW (cc := cX8_init) (maxL := 2) (ret := none) (by decide) rfl ?_
  intro p e s m args below meth c s₁ B hml hv
  obtain ⟨hav, rfl, ⟨hI, hN, hK⟩, hO, hAO⟩ := hv
  have hx := B.exec
  have hb := B.bytes
  have hr := B.returns
  have hts := atoms_spec (ws := tb (.code yX8_init cX8_init 2 none)) B.pre
  have hown : s.vm.findClass RX8 = some m.cls := findClass_of_methodNamed B.named
  have hlocks := B.notSynchronized
  have hin : meth.name = "<init>" := (name_of_methodNamed B.named B.method).1
  have hl := lv_entry ([.ref h0, .ref p1]) (n := 2) (Nat.le_of_ble_eq_true rfl)
  rw [show entryFrame m args 2 = entryFrame m ([.ref h0, .ref p1] : List Value).toArray 2 from by rw [hav], lg_entry_eq]
  generalize (lg_sl ([.ref h0, .ref p1]) ++ List.replicate (2 - (lg_sl ([.ref h0, .ref p1])).length) Slot.unset).toArray = ls at hl ⊢
  have hl : lv_has ls 2 [(0, .ref h0), (1, .ref p1)] := hl
  generalize hR : (headSpec (tb (.code yX8_init cX8_init 2 none)) ({ frames := 1, cells := 5, slots := 176, locals := 40 } : Room)).room = R
  have hR := hR.symm
  generalize hAe : mA Gi h0 s.heap.size = A
  have hA : ∀ q : Nat, s.heap.size ≤ q → A q := fun q h => by rw [← hAe]; exact Or.inr (Or.inr h)
  have hA0 : A h0 := by rw [← hAe]; exact Or.inr (Or.inl rfl)
  have hS : va_S A s.heap s.heap [] := va_S.rf
  obtain ⟨G, hle0, hI, hn0, hAG⟩ : ∃ G, gle Gi G ∧ th_I (okC E) D G [] s.heap ∧ G h0 = none ∧ (∀ (r : Nat) (k : th_K), G r = some k → A r) := ⟨Gi, gle.rf, hI, hn0, fun r k h => by rw [← hAe]; exact Or.inl ⟨k, h⟩⟩
  have hp1 := hle0 _ _ hp1
  refine lv_aload_n hx hb dX8_init_0 rfl (lv_at hl 0 rfl) ?_
  refine W.objInit hx hb hown (hts _ (tb_c wd_300)) (hts _ (tb_c wd_28)) (hts _ (tb_c wd_oinit)) rfl (by rw [hml]; exact hl.1) rfl dX8_init_1 (by rw [hR]; exact Nat.le_of_ble_eq_true rfl) (by rw [hR]; exact Nat.le_of_ble_eq_true rfl) ?_
  refine W.eq (g2 := F0 m 4 ls []) rfl ?_
  refine lv_aload_n hx hb dX8_init_4 rfl (lv_at hl 0 rfl) ?_
  refine lv_bipush (v := 25) hx hb dX8_init_5 (by decide) ?_
  refine th_newi hx hb (hts _ (tb_c wd_55)) hK hI hS hA hAG 25 (by decide) (by decide) (by decide) (by rw [hR]; exact Nat.le_of_ble_eq_true rfl) (by rw [hR]; exact Nat.le_of_ble_eq_true rfl) dX8_init_7 (fun G a1 H hle hq2 hAG hqe hGne o1 hI hS => ?_)
  have hlt0 : h0 < _ := hO.lt
  have hn0 : G h0 = none := (hGne h0 (by omega)).trans hn0
  have hO := hO.kept (o1 _ hlt0)
  have hp1 := hle _ _ hp1
  have hle0 := hle0.tr hle
  refine th_putF (ty := (.array .int)) hx hb hts inT8 tyX8 tyX8_ok nmX8 hown hK hO hS hA0 rfl 1 (by decide) (hts _ (tb_c wd_302)) rfl hin rfl (by decide +kernel) rfl rfl (Nat.le_of_ble_eq_true rfl) dX8_init_9 (fun H locs hO oq hS => ?_)
  have hI := th_raw hI hn0 oq
  have hO : va_at D vwCl (h0, .inr (8, [.null, .ref a1, .null, .null, .null, .null])) H := hO
  refine lv_aload_n hx hb dX8_init_12 rfl (lv_at hl 0 rfl) ?_
  refine lv_bipush (v := 25) hx hb dX8_init_13 (by decide) ?_
  refine th_newi hx hb (hts _ (tb_c wd_55)) hK hI hS hA hAG 25 (by decide) (by decide) (by decide) (by rw [hR]; exact Nat.le_of_ble_eq_true rfl) (by rw [hR]; exact Nat.le_of_ble_eq_true rfl) dX8_init_15 (fun G a3 H hle hq4 hAG hqe hGne o1 hI hS => ?_)
  have hlt0 : h0 < _ := hO.lt
  have hn0 : G h0 = none := (hGne h0 (by omega)).trans hn0
  have hO := hO.kept (o1 _ hlt0)
  have hp1 := hle _ _ hp1
  have hq2 := hle _ _ hq2
  have hle0 := hle0.tr hle
  refine th_putF (ty := (.array .int)) hx hb hts inT8 tyX8 tyX8_ok nmX8 hown hK hO hS hA0 rfl 2 (by decide) (hts _ (tb_c wd_303)) rfl hin rfl (by decide +kernel) rfl rfl (Nat.le_of_ble_eq_true rfl) dX8_init_17 (fun H locs hO oq hS => ?_)
  have hI := th_raw hI hn0 oq
  have hO : va_at D vwCl (h0, .inr (8, [.null, .ref a1, .ref a3, .null, .null, .null])) H := hO
  refine lv_aload_n hx hb dX8_init_20 rfl (lv_at hl 0 rfl) ?_
  refine lv_bipush (v := 25) hx hb dX8_init_21 (by decide) ?_
  refine th_newi hx hb (hts _ (tb_c wd_55)) hK hI hS hA hAG 25 (by decide) (by decide) (by decide) (by rw [hR]; exact Nat.le_of_ble_eq_true rfl) (by rw [hR]; exact Nat.le_of_ble_eq_true rfl) dX8_init_23 (fun G a5 H hle hq6 hAG hqe hGne o1 hI hS => ?_)
  have hlt0 : h0 < _ := hO.lt
  have hn0 : G h0 = none := (hGne h0 (by omega)).trans hn0
  have hO := hO.kept (o1 _ hlt0)
  have hp1 := hle _ _ hp1
  have hq2 := hle _ _ hq2
  have hq4 := hle _ _ hq4
  have hle0 := hle0.tr hle
  refine th_putF (ty := (.array .int)) hx hb hts inT8 tyX8 tyX8_ok nmX8 hown hK hO hS hA0 rfl 3 (by decide) (hts _ (tb_c wd_304)) rfl hin rfl (by decide +kernel) rfl rfl (Nat.le_of_ble_eq_true rfl) dX8_init_25 (fun H locs hO oq hS => ?_)
  have hI := th_raw hI hn0 oq
  have hO : va_at D vwCl (h0, .inr (8, [.null, .ref a1, .ref a3, .ref a5, .null, .null])) H := hO
  refine lv_aload_n hx hb dX8_init_28 rfl (lv_at hl 0 rfl) ?_
  refine lv_bipush (v := 97) hx hb dX8_init_29 (by decide) ?_
  refine th_newi hx hb (hts _ (tb_c wd_55)) hK hI hS hA hAG 97 (by decide) (by decide) (by decide) (by rw [hR]; exact Nat.le_of_ble_eq_true rfl) (by rw [hR]; exact Nat.le_of_ble_eq_true rfl) dX8_init_31 (fun G a7 H hle hq8 hAG hqe hGne o1 hI hS => ?_)
  have hlt0 : h0 < _ := hO.lt
  have hn0 : G h0 = none := (hGne h0 (by omega)).trans hn0
  have hO := hO.kept (o1 _ hlt0)
  have hp1 := hle _ _ hp1
  have hq2 := hle _ _ hq2
  have hq4 := hle _ _ hq4
  have hq6 := hle _ _ hq6
  have hle0 := hle0.tr hle
  refine th_putF (ty := (.array .int)) hx hb hts inT8 tyX8 tyX8_ok nmX8 hown hK hO hS hA0 rfl 4 (by decide) (hts _ (tb_c wd_305)) rfl hin rfl (by decide +kernel) rfl rfl (Nat.le_of_ble_eq_true rfl) dX8_init_33 (fun H locs hO oq hS => ?_)
  have hI := th_raw hI hn0 oq
  have hO : va_at D vwCl (h0, .inr (8, [.null, .ref a1, .ref a3, .ref a5, .ref a7, .null])) H := hO
  refine lv_aload_n hx hb dX8_init_36 rfl (lv_at hl 0 rfl) ?_
  refine lv_iconst (v := 4) hx hb dX8_init_37 (by decide) ?_
  refine th_newi hx hb (hts _ (tb_c wd_55)) hK hI hS hA hAG 4 (by decide) (by decide) (by decide) (by rw [hR]; exact Nat.le_of_ble_eq_true rfl) (by rw [hR]; exact Nat.le_of_ble_eq_true rfl) dX8_init_38 (fun G a9 H hle hq10 hAG hqe hGne o1 hI hS => ?_)
  have hlt0 : h0 < _ := hO.lt
  have hn0 : G h0 = none := (hGne h0 (by omega)).trans hn0
  have hO := hO.kept (o1 _ hlt0)
  have hp1 := hle _ _ hp1
  have hq2 := hle _ _ hq2
  have hq4 := hle _ _ hq4
  have hq6 := hle _ _ hq6
  have hq8 := hle _ _ hq8
  have hle0 := hle0.tr hle
  refine th_putF (ty := (.array .int)) hx hb hts inT8 tyX8 tyX8_ok nmX8 hown hK hO hS hA0 rfl 5 (by decide) (hts _ (tb_c wd_306)) rfl hin rfl (by decide +kernel) rfl rfl (Nat.le_of_ble_eq_true rfl) dX8_init_40 (fun H locs hO oq hS => ?_)
  have hI := th_raw hI hn0 oq
  have hO : va_at D vwCl (h0, .inr (8, [.null, .ref a1, .ref a3, .ref a5, .ref a7, .ref a9])) H := hO
  refine lv_aload_n hx hb dX8_init_43 rfl (lv_at hl 0 rfl) ?_
  refine lv_aload_n hx hb dX8_init_44 rfl (lv_at hl 1 rfl) ?_
  refine th_putF (ty := (.object "NineRiver$Stream")) hx hb hts inT8 tyX8 tyX8_ok nmX8 hown hK hO hS hA0 rfl 0 (by decide) (hts _ (tb_c wd_301)) rfl hin rfl (by decide +kernel) rfl rfl (Nat.le_of_ble_eq_true rfl) dX8_init_45 (fun H locs hO oq hS => ?_)
  have hI := th_raw hI hn0 oq
  have hO : va_at D vwCl (h0, .inr (8, [.ref p1, .ref a1, .ref a3, .ref a5, .ref a7, .ref a9])) H := hO
  have hO : va_at D vwCl (h0, .inr (8, [.ref p1, .ref a1, .ref a3, .ref a5, .ref a7, .ref a9])) H := hO
  have hI := th_type (k := (13, 0)) hI hn0 hO (ok_13 (gx_le hn0 _ _ hp1) (gx_le hn0 _ _ hq2) (gx_le hn0 _ _ hq4) (gx_le hn0 _ _ hq6) (gx_le hn0 _ _ hq8) (gx_le hn0 _ _ hq10))
  refine W.widen (k := 5) (n := 176) (Nat.le_of_ble_eq_true rfl) (Nat.le_of_ble_eq_true rfl) ?_
  rw [← hAe] at hS ⊢
  exact W.vret hx hb hr (fun t ht hW => ⟨⟨gx G h0 (13, 0), rfl, ⟨hle0.tr (gx_le hn0), gx_a, fun r k hr => mA_new (hAe ▸ hAG) hle0 hr⟩, by rw [ht]; exact hI, hN.warm hW, va_K.moved hW.alike hK⟩, hS.F ht⟩) hS.2.2 dX8_init_48
theorem dX10_init_0g : (decode cX10_init 0 = .ok (.aload_n 0, 1)) ∧ (decode cX10_init 1 = .ok (.invokespecial 3, 3)) ∧ (decode cX10_init 4 = .ok (.aload_n 0, 1)) ∧ (decode cX10_init 5 = .ok (.sipush 2304, 3)) ∧ (decode cX10_init 8 = .ok (.newarray .int, 2)) ∧ (decode cX10_init 10 = .ok (.putfield 9, 3)) ∧ (decode cX10_init 13 = .ok (.aload_n 0, 1)) ∧ (decode cX10_init 14 = .ok (.iconst 3, 1)) ∧ (decode cX10_init 15 = .ok (.newarray .int, 2)) ∧ (decode cX10_init 17 = .ok (.putfield 15, 3)) := by decide +kernel
theorem dX10_init_0 : decode cX10_init 0 = .ok (.aload_n 0, 1) := dX10_init_0g.1
theorem dX10_init_1 : decode cX10_init 1 = .ok (.invokespecial 3, 3) := dX10_init_0g.2.1
theorem dX10_init_4 : decode cX10_init 4 = .ok (.aload_n 0, 1) := dX10_init_0g.2.2.1
theorem dX10_init_5 : decode cX10_init 5 = .ok (.sipush 2304, 3) := dX10_init_0g.2.2.2.1
theorem dX10_init_8 : decode cX10_init 8 = .ok (.newarray .int, 2) := dX10_init_0g.2.2.2.2.1
theorem dX10_init_10 : decode cX10_init 10 = .ok (.putfield 9, 3) := dX10_init_0g.2.2.2.2.2.1
theorem dX10_init_13 : decode cX10_init 13 = .ok (.aload_n 0, 1) := dX10_init_0g.2.2.2.2.2.2.1
theorem dX10_init_14 : decode cX10_init 14 = .ok (.iconst 3, 1) := dX10_init_0g.2.2.2.2.2.2.2.1
theorem dX10_init_15 : decode cX10_init 15 = .ok (.newarray .int, 2) := dX10_init_0g.2.2.2.2.2.2.2.2.1
theorem dX10_init_17 : decode cX10_init 17 = .ok (.putfield 15, 3) := dX10_init_0g.2.2.2.2.2.2.2.2.2
theorem dX10_init_20g : (decode cX10_init 20 = .ok (.aload_n 0, 1)) ∧ (decode cX10_init 21 = .ok (.iconst (-1), 1)) ∧ (decode cX10_init 22 = .ok (.putfield 18, 3)) ∧ (decode cX10_init 25 = .ok (.aload_n 0, 1)) ∧ (decode cX10_init 26 = .ok (.aload_n 1, 1)) ∧ (decode cX10_init 27 = .ok (.putfield 22, 3)) ∧ (decode cX10_init 30 = .ok (.aload_n 0, 1)) ∧ (decode cX10_init 31 = .ok (.aload_n 2, 1)) ∧ (decode cX10_init 32 = .ok (.putfield 26, 3)) ∧ (decode cX10_init 35 = .ok (.aload_n 0, 1)) := by decide +kernel
theorem dX10_init_20 : decode cX10_init 20 = .ok (.aload_n 0, 1) := dX10_init_20g.1
theorem dX10_init_21 : decode cX10_init 21 = .ok (.iconst (-1), 1) := dX10_init_20g.2.1
theorem dX10_init_22 : decode cX10_init 22 = .ok (.putfield 18, 3) := dX10_init_20g.2.2.1
theorem dX10_init_25 : decode cX10_init 25 = .ok (.aload_n 0, 1) := dX10_init_20g.2.2.2.1
theorem dX10_init_26 : decode cX10_init 26 = .ok (.aload_n 1, 1) := dX10_init_20g.2.2.2.2.1
theorem dX10_init_27 : decode cX10_init 27 = .ok (.putfield 22, 3) := dX10_init_20g.2.2.2.2.2.1
theorem dX10_init_30 : decode cX10_init 30 = .ok (.aload_n 0, 1) := dX10_init_20g.2.2.2.2.2.2.1
theorem dX10_init_31 : decode cX10_init 31 = .ok (.aload_n 2, 1) := dX10_init_20g.2.2.2.2.2.2.2.1
theorem dX10_init_32 : decode cX10_init 32 = .ok (.putfield 26, 3) := dX10_init_20g.2.2.2.2.2.2.2.2.1
theorem dX10_init_35 : decode cX10_init 35 = .ok (.aload_n 0, 1) := dX10_init_20g.2.2.2.2.2.2.2.2.2
theorem dX10_init_36g : (decode cX10_init 36 = .ok (.aload_n 3, 1)) ∧ (decode cX10_init 37 = .ok (.putfield 30, 3)) ∧ (decode cX10_init 40 = .ok (.return_, 1)) := by decide +kernel
theorem dX10_init_36 : decode cX10_init 36 = .ok (.aload_n 3, 1) := dX10_init_36g.1
theorem dX10_init_37 : decode cX10_init 37 = .ok (.putfield 30, 3) := dX10_init_36g.2.1
theorem dX10_init_40 : decode cX10_init 40 = .ok (.return_, 1) := dX10_init_36g.2.2
set_option maxHeartbeats 4000000 in
set_option maxRecDepth 100000 in
theorem c_X10_init (l : Launch) (E : Nat → Nat) (D : va_G) (Gi : th_G) (h0 sz : Nat) (hn0 : Gi h0 = none) (hE : ∀ k : Nat, (32 + 8 * h0 ≤ k ∧ k < 40 + 8 * h0) ∨ 32 + 8 * sz ≤ k → E k = 0) (p1 : Nat) (hp1 : Gi p1 = some (6, 0)) (p2 : Nat) (hp2 : Gi p2 = some (9, 0)) (p3 : Nat) (hp3 : Gi p3 = some (10, 0)) : Met l yX10_init (tb (.code yX10_init cX10_init 4 none)) ({ frames := 1, cells := 2, slots := 2307, locals := 40 } : Room) (va_Pc [.ref h0, .ref p1, .ref p2, .ref p3] (fun U => U.heap.size = sz ∧ th_P E D Gi U ∧ va_at D vwCl (h0, .inr (10, [.null, .null, .null, .null, .null, .int 0])) U.heap ∧ th_AO U)) (QM E D Gi h0 (14, 0) sz) 2 2307 (mA Gi h0 sz) := by
  refine Met.ofW (cc := cX10_init) (maxL := 4) (ret := none) (by decide) rfl ?_
  intro p e s m args below meth c s₁ B hml hv
  obtain ⟨hav, rfl, ⟨hI, hN, hK⟩, hO, hAO⟩ := hv
  have hx := B.exec
  have hb := B.bytes
  have hr := B.returns
  have hts := atoms_spec (ws := tb (.code yX10_init cX10_init 4 none)) B.pre
  have hown : s.vm.findClass RX10 = some m.cls := findClass_of_methodNamed B.named
  have hlocks := B.notSynchronized
  have hin : meth.name = "<init>" := (name_of_methodNamed B.named B.method).1
  have hl := lv_entry ([.ref h0, .ref p1, .ref p2, .ref p3]) (n := 4) (Nat.le_of_ble_eq_true rfl)
  rw [show entryFrame m args 4 = entryFrame m ([.ref h0, .ref p1, .ref p2, .ref p3] : List Value).toArray 4 from by rw [hav], lg_entry_eq]
  generalize (lg_sl ([.ref h0, .ref p1, .ref p2, .ref p3]) ++ List.replicate (4 - (lg_sl ([.ref h0, .ref p1, .ref p2, .ref p3])).length) Slot.unset).toArray = ls at hl ⊢
  have hl : lv_has ls 4 [(0, .ref h0), (1, .ref p1), (2, .ref p2), (3, .ref p3)] := hl
  generalize hR : (headSpec (tb (.code yX10_init cX10_init 4 none)) ({ frames := 1, cells := 2, slots := 2307, locals := 40 } : Room)).room = R
  have hR := hR.symm
  generalize hAe : mA Gi h0 s.heap.size = A
  have hA : ∀ q : Nat, s.heap.size ≤ q → A q := fun q h => by rw [← hAe]; exact Or.inr (Or.inr h)
  have hA0 : A h0 := by rw [← hAe]; exact Or.inr (Or.inl rfl)
  have hS : va_S A s.heap s.heap [] := va_S.rf
  obtain ⟨G, hle0, hI, hn0, hAG⟩ : ∃ G, gle Gi G ∧ th_I (okC E) D G [] s.heap ∧ G h0 = none ∧ (∀ (r : Nat) (k : th_K), G r = some k → A r) := ⟨Gi, gle.rf, hI, hn0, fun r k h => by rw [← hAe]; exact Or.inl ⟨k, h⟩⟩
  have hp1 := hle0 _ _ hp1
  have hp2 := hle0 _ _ hp2
  have hp3 := hle0 _ _ hp3
  refine lv_aload_n hx hb dX10_init_0 rfl (lv_at hl 0 rfl) ?_
  refine W.objInit hx hb hown (hts _ (tb_c wd_325)) (hts _ (tb_c wd_28)) (hts _ (tb_c wd_oinit)) rfl (by rw [hml]; exact hl.1) rfl dX10_init_1 (by rw [hR]; exact Nat.le_of_ble_eq_true rfl) (by rw [hR]; exact Nat.le_of_ble_eq_true rfl) ?_
  refine W.eq (g2 := F0 m 4 ls []) rfl ?_
  refine lv_aload_n hx hb dX10_init_4 rfl (lv_at hl 0 rfl) ?_
  refine lv_sipush (v := 2304) hx hb dX10_init_5 (by decide) ?_
  refine th_newi hx hb (hts _ (tb_c wd_55)) hK hI hS hA hAG 2304 (by decide) (by decide) (by decide) (by rw [hR]; exact Nat.le_of_ble_eq_true rfl) (by rw [hR]; exact Nat.le_of_ble_eq_true rfl) dX10_init_8 (fun G a1 H hle hq2 hAG hqe hGne o1 hI hS => ?_)
  have hlt0 : h0 < _ := hO.lt
  have hn0 : G h0 = none := (hGne h0 (by omega)).trans hn0
  have hO := hO.kept (o1 _ hlt0)
  have hp1 := hle _ _ hp1
  have hp2 := hle _ _ hp2
  have hp3 := hle _ _ hp3
  have hle0 := hle0.tr hle
  refine th_putF (ty := (.array .int)) hx hb hts inT10 tyX10 tyX10_ok nmX10 hown hK hO hS hA0 rfl 3 (by decide) (hts _ (tb_c wd_329)) rfl hin rfl (by decide +kernel) rfl rfl (Nat.le_of_ble_eq_true rfl) dX10_init_10 (fun H locs hO oq hS => ?_)
  have hI := th_raw hI hn0 oq
  have hO : va_at D vwCl (h0, .inr (10, [.null, .null, .null, .ref a1, .null, .int 0])) H := hO
  refine lv_aload_n hx hb dX10_init_13 rfl (lv_at hl 0 rfl) ?_
  refine lv_iconst (v := 3) hx hb dX10_init_14 (by decide) ?_
  refine th_newi hx hb (hts _ (tb_c wd_55)) hK hI hS hA hAG 3 (by decide) (by decide) (by decide) (by rw [hR]; exact Nat.le_of_ble_eq_true rfl) (by rw [hR]; exact Nat.le_of_ble_eq_true rfl) dX10_init_15 (fun G a3 H hle hq4 hAG hqe hGne o1 hI hS => ?_)
  have hlt0 : h0 < _ := hO.lt
  have hn0 : G h0 = none := (hGne h0 (by omega)).trans hn0
  have hO := hO.kept (o1 _ hlt0)
  have hp1 := hle _ _ hp1
  have hp2 := hle _ _ hp2
  have hp3 := hle _ _ hp3
  have hq2 := hle _ _ hq2
  have hle0 := hle0.tr hle
  refine th_putF (ty := (.array .int)) hx hb hts inT10 tyX10 tyX10_ok nmX10 hown hK hO hS hA0 rfl 4 (by decide) (hts _ (tb_c wd_330)) rfl hin rfl (by decide +kernel) rfl rfl (Nat.le_of_ble_eq_true rfl) dX10_init_17 (fun H locs hO oq hS => ?_)
  have hI := th_raw hI hn0 oq
  have hO : va_at D vwCl (h0, .inr (10, [.null, .null, .null, .ref a1, .ref a3, .int 0])) H := hO
  refine lv_aload_n hx hb dX10_init_20 rfl (lv_at hl 0 rfl) ?_
  refine lv_iconst (v := (-1)) hx hb dX10_init_21 (by decide) ?_
  refine th_put (ty := .int) hx hb hts inT10 tyX10 tyX10_ok nmX10 hown hK hO hS hA0 rfl 5 (by decide) (hts _ (tb_c wd_331)) rfl rfl (by decide +kernel) rfl rfl (Nat.le_of_ble_eq_true rfl) dX10_init_22 (fun H locs hO oq hS => ?_)
  have hI := th_raw hI hn0 oq
  have hO : va_at D vwCl (h0, .inr (10, [.null, .null, .null, .ref a1, .ref a3, .int (-1)])) H := hO
  refine lv_aload_n hx hb dX10_init_25 rfl (lv_at hl 0 rfl) ?_
  refine lv_aload_n hx hb dX10_init_26 rfl (lv_at hl 1 rfl) ?_
  refine th_putF (ty := (.object "NineRiver$State")) hx hb hts inT10 tyX10 tyX10_ok nmX10 hown hK hO hS hA0 rfl 0 (by decide) (hts _ (tb_c wd_326)) rfl hin rfl (by decide +kernel) rfl rfl (Nat.le_of_ble_eq_true rfl) dX10_init_27 (fun H locs hO oq hS => ?_)
  have hI := th_raw hI hn0 oq
  have hO : va_at D vwCl (h0, .inr (10, [.ref p1, .null, .null, .ref a1, .ref a3, .int (-1)])) H := hO
  refine lv_aload_n hx hb dX10_init_30 rfl (lv_at hl 0 rfl) ?_
  refine lv_aload_n hx hb dX10_init_31 rfl (lv_at hl 2 rfl) ?_
  refine th_putF (ty := (.object "NineRiver$Stream")) hx hb hts inT10 tyX10 tyX10_ok nmX10 hown hK hO hS hA0 rfl 1 (by decide) (hts _ (tb_c wd_327)) rfl hin rfl (by decide +kernel) rfl rfl (Nat.le_of_ble_eq_true rfl) dX10_init_32 (fun H locs hO oq hS => ?_)
  have hI := th_raw hI hn0 oq
  have hO : va_at D vwCl (h0, .inr (10, [.ref p1, .ref p2, .null, .ref a1, .ref a3, .int (-1)])) H := hO
  refine lv_aload_n hx hb dX10_init_35 rfl (lv_at hl 0 rfl) ?_
  refine lv_aload_n hx hb dX10_init_36 rfl (lv_at hl 3 rfl) ?_
  refine th_putF (ty := (.object "NineRiver$Travel")) hx hb hts inT10 tyX10 tyX10_ok nmX10 hown hK hO hS hA0 rfl 2 (by decide) (hts _ (tb_c wd_328)) rfl hin rfl (by decide +kernel) rfl rfl (Nat.le_of_ble_eq_true rfl) dX10_init_37 (fun H locs hO oq hS => ?_)
  have hI := th_raw hI hn0 oq
  have hO : va_at D vwCl (h0, .inr (10, [.ref p1, .ref p2, .ref p3, .ref a1, .ref a3, .int (-1)])) H := hO
  have hO : va_at D vwCl (h0, .inr (10, [.ref p1, .ref p2, .ref p3, .ref a1, .ref a3, .int (-1)])) H := hO
  have hI := th_type (k := (14, 0)) hI hn0 hO (ok_14 (gx_le hn0 _ _ hp1) (gx_le hn0 _ _ hp2) (gx_le hn0 _ _ hp3) (gx_le hn0 _ _ hq2) (gx_le hn0 _ _ hq4))
  refine W.widen (k := 2) (n := 2307) (Nat.le_of_ble_eq_true rfl) (Nat.le_of_ble_eq_true rfl) ?_
  rw [← hAe] at hS ⊢
  exact W.vret hx hb hr (fun t ht hW => ⟨⟨gx G h0 (14, 0), rfl, ⟨hle0.tr (gx_le hn0), gx_a, fun r k hr => mA_new (hAe ▸ hAG) hle0 hr⟩, by rw [ht]; exact hI, hN.warm hW, va_K.moved hW.alike hK⟩, hS.F ht⟩) hS.2.2 dX10_init_40
theorem dX11_init_0g : (decode cX11_init 0 = .ok (.aload_n 0, 1)) ∧ (decode cX11_init 1 = .ok (.invokespecial 3, 3)) ∧ (decode cX11_init 4 = .ok (.aload_n 0, 1)) ∧ (decode cX11_init 5 = .ok (.new 9, 3)) ∧ (decode cX11_init 8 = .ok (.dup, 1)) ∧ (decode cX11_init 9 = .ok (.invokespecial 11, 3)) ∧ (decode cX11_init 12 = .ok (.putfield 12, 3)) ∧ (decode cX11_init 15 = .ok (.aload_n 0, 1)) ∧ (decode cX11_init 16 = .ok (.iconst 2, 1)) ∧ (decode cX11_init 17 = .ok (.anewarray 9, 3)) := by decide +kernel
theorem dX11_init_0 : decode cX11_init 0 = .ok (.aload_n 0, 1) := dX11_init_0g.1
theorem dX11_init_1 : decode cX11_init 1 = .ok (.invokespecial 3, 3) := dX11_init_0g.2.1
theorem dX11_init_4 : decode cX11_init 4 = .ok (.aload_n 0, 1) := dX11_init_0g.2.2.1
theorem dX11_init_5 : decode cX11_init 5 = .ok (.new 9, 3) := dX11_init_0g.2.2.2.1
theorem dX11_init_8 : decode cX11_init 8 = .ok (.dup, 1) := dX11_init_0g.2.2.2.2.1
theorem dX11_init_9 : decode cX11_init 9 = .ok (.invokespecial 11, 3) := dX11_init_0g.2.2.2.2.2.1
theorem dX11_init_12 : decode cX11_init 12 = .ok (.putfield 12, 3) := dX11_init_0g.2.2.2.2.2.2.1
theorem dX11_init_15 : decode cX11_init 15 = .ok (.aload_n 0, 1) := dX11_init_0g.2.2.2.2.2.2.2.1
theorem dX11_init_16 : decode cX11_init 16 = .ok (.iconst 2, 1) := dX11_init_0g.2.2.2.2.2.2.2.2.1
theorem dX11_init_17 : decode cX11_init 17 = .ok (.anewarray 9, 3) := dX11_init_0g.2.2.2.2.2.2.2.2.2
theorem dX11_init_20g : (decode cX11_init 20 = .ok (.putfield 16, 3)) ∧ (decode cX11_init 23 = .ok (.aload_n 0, 1)) ∧ (decode cX11_init 24 = .ok (.sipush 400, 3)) ∧ (decode cX11_init 27 = .ok (.newarray .int, 2)) ∧ (decode cX11_init 29 = .ok (.putfield 20, 3)) ∧ (decode cX11_init 32 = .ok (.aload_n 0, 1)) ∧ (decode cX11_init 33 = .ok (.iconst 5, 1)) ∧ (decode cX11_init 34 = .ok (.newarray .int, 2)) ∧ (decode cX11_init 36 = .ok (.putfield 24, 3)) ∧ (decode cX11_init 39 = .ok (.aload_n 0, 1)) := by decide +kernel
theorem dX11_init_20 : decode cX11_init 20 = .ok (.putfield 16, 3) := dX11_init_20g.1
theorem dX11_init_23 : decode cX11_init 23 = .ok (.aload_n 0, 1) := dX11_init_20g.2.1
theorem dX11_init_24 : decode cX11_init 24 = .ok (.sipush 400, 3) := dX11_init_20g.2.2.1
theorem dX11_init_27 : decode cX11_init 27 = .ok (.newarray .int, 2) := dX11_init_20g.2.2.2.1
theorem dX11_init_29 : decode cX11_init 29 = .ok (.putfield 20, 3) := dX11_init_20g.2.2.2.2.1
theorem dX11_init_32 : decode cX11_init 32 = .ok (.aload_n 0, 1) := dX11_init_20g.2.2.2.2.2.1
theorem dX11_init_33 : decode cX11_init 33 = .ok (.iconst 5, 1) := dX11_init_20g.2.2.2.2.2.2.1
theorem dX11_init_34 : decode cX11_init 34 = .ok (.newarray .int, 2) := dX11_init_20g.2.2.2.2.2.2.2.1
theorem dX11_init_36 : decode cX11_init 36 = .ok (.putfield 24, 3) := dX11_init_20g.2.2.2.2.2.2.2.2.1
theorem dX11_init_39 : decode cX11_init 39 = .ok (.aload_n 0, 1) := dX11_init_20g.2.2.2.2.2.2.2.2.2
theorem dX11_init_40g : (decode cX11_init 40 = .ok (.bipush 24, 2)) ∧ (decode cX11_init 42 = .ok (.newarray .int, 2)) ∧ (decode cX11_init 44 = .ok (.putfield 27, 3)) ∧ (decode cX11_init 47 = .ok (.aload_n 0, 1)) ∧ (decode cX11_init 48 = .ok (.new 30, 3)) ∧ (decode cX11_init 51 = .ok (.dup, 1)) ∧ (decode cX11_init 52 = .ok (.invokespecial 32, 3)) ∧ (decode cX11_init 55 = .ok (.putfield 33, 3)) ∧ (decode cX11_init 58 = .ok (.aload_n 0, 1)) ∧ (decode cX11_init 59 = .ok (.new 37, 3)) := by decide +kernel
theorem dX11_init_40 : decode cX11_init 40 = .ok (.bipush 24, 2) := dX11_init_40g.1
theorem dX11_init_42 : decode cX11_init 42 = .ok (.newarray .int, 2) := dX11_init_40g.2.1
theorem dX11_init_44 : decode cX11_init 44 = .ok (.putfield 27, 3) := dX11_init_40g.2.2.1
theorem dX11_init_47 : decode cX11_init 47 = .ok (.aload_n 0, 1) := dX11_init_40g.2.2.2.1
theorem dX11_init_48 : decode cX11_init 48 = .ok (.new 30, 3) := dX11_init_40g.2.2.2.2.1
theorem dX11_init_51 : decode cX11_init 51 = .ok (.dup, 1) := dX11_init_40g.2.2.2.2.2.1
theorem dX11_init_52 : decode cX11_init 52 = .ok (.invokespecial 32, 3) := dX11_init_40g.2.2.2.2.2.2.1
theorem dX11_init_55 : decode cX11_init 55 = .ok (.putfield 33, 3) := dX11_init_40g.2.2.2.2.2.2.2.1
theorem dX11_init_58 : decode cX11_init 58 = .ok (.aload_n 0, 1) := dX11_init_40g.2.2.2.2.2.2.2.2.1
theorem dX11_init_59 : decode cX11_init 59 = .ok (.new 37, 3) := dX11_init_40g.2.2.2.2.2.2.2.2.2
theorem dX11_init_62g : (decode cX11_init 62 = .ok (.dup, 1)) ∧ (decode cX11_init 63 = .ok (.aload_n 0, 1)) ∧ (decode cX11_init 64 = .ok (.getfield 12, 3)) ∧ (decode cX11_init 67 = .ok (.invokespecial 39, 3)) ∧ (decode cX11_init 70 = .ok (.putfield 42, 3)) ∧ (decode cX11_init 73 = .ok (.aload_n 0, 1)) ∧ (decode cX11_init 74 = .ok (.new 46, 3)) ∧ (decode cX11_init 77 = .ok (.dup, 1)) ∧ (decode cX11_init 78 = .ok (.aload_n 0, 1)) ∧ (decode cX11_init 79 = .ok (.getfield 12, 3)) := by decide +kernel
theorem dX11_init_62 : decode cX11_init 62 = .ok (.dup, 1) := dX11_init_62g.1
theorem dX11_init_63 : decode cX11_init 63 = .ok (.aload_n 0, 1) := dX11_init_62g.2.1
theorem dX11_init_64 : decode cX11_init 64 = .ok (.getfield 12, 3) := dX11_init_62g.2.2.1
theorem dX11_init_67 : decode cX11_init 67 = .ok (.invokespecial 39, 3) := dX11_init_62g.2.2.2.1
theorem dX11_init_70 : decode cX11_init 70 = .ok (.putfield 42, 3) := dX11_init_62g.2.2.2.2.1
theorem dX11_init_73 : decode cX11_init 73 = .ok (.aload_n 0, 1) := dX11_init_62g.2.2.2.2.2.1
theorem dX11_init_74 : decode cX11_init 74 = .ok (.new 46, 3) := dX11_init_62g.2.2.2.2.2.2.1
theorem dX11_init_77 : decode cX11_init 77 = .ok (.dup, 1) := dX11_init_62g.2.2.2.2.2.2.2.1
theorem dX11_init_78 : decode cX11_init 78 = .ok (.aload_n 0, 1) := dX11_init_62g.2.2.2.2.2.2.2.2.1
theorem dX11_init_79 : decode cX11_init 79 = .ok (.getfield 12, 3) := dX11_init_62g.2.2.2.2.2.2.2.2.2
theorem dX11_init_82g : (decode cX11_init 82 = .ok (.aload_n 0, 1)) ∧ (decode cX11_init 83 = .ok (.getfield 42, 3)) ∧ (decode cX11_init 86 = .ok (.invokespecial 48, 3)) ∧ (decode cX11_init 89 = .ok (.putfield 51, 3)) ∧ (decode cX11_init 92 = .ok (.aload_n 0, 1)) ∧ (decode cX11_init 93 = .ok (.new 55, 3)) ∧ (decode cX11_init 96 = .ok (.dup, 1)) ∧ (decode cX11_init 97 = .ok (.aload_n 0, 1)) ∧ (decode cX11_init 98 = .ok (.getfield 12, 3)) ∧ (decode cX11_init 101 = .ok (.aload_n 0, 1)) := by decide +kernel
theorem dX11_init_82 : decode cX11_init 82 = .ok (.aload_n 0, 1) := dX11_init_82g.1
theorem dX11_init_83 : decode cX11_init 83 = .ok (.getfield 42, 3) := dX11_init_82g.2.1
theorem dX11_init_86 : decode cX11_init 86 = .ok (.invokespecial 48, 3) := dX11_init_82g.2.2.1
theorem dX11_init_89 : decode cX11_init 89 = .ok (.putfield 51, 3) := dX11_init_82g.2.2.2.1
theorem dX11_init_92 : decode cX11_init 92 = .ok (.aload_n 0, 1) := dX11_init_82g.2.2.2.2.1
theorem dX11_init_93 : decode cX11_init 93 = .ok (.new 55, 3) := dX11_init_82g.2.2.2.2.2.1
theorem dX11_init_96 : decode cX11_init 96 = .ok (.dup, 1) := dX11_init_82g.2.2.2.2.2.2.1
theorem dX11_init_97 : decode cX11_init 97 = .ok (.aload_n 0, 1) := dX11_init_82g.2.2.2.2.2.2.2.1
theorem dX11_init_98 : decode cX11_init 98 = .ok (.getfield 12, 3) := dX11_init_82g.2.2.2.2.2.2.2.2.1
theorem dX11_init_101 : decode cX11_init 101 = .ok (.aload_n 0, 1) := dX11_init_82g.2.2.2.2.2.2.2.2.2
theorem dX11_init_102g : (decode cX11_init 102 = .ok (.getfield 42, 3)) ∧ (decode cX11_init 105 = .ok (.aload_n 0, 1)) ∧ (decode cX11_init 106 = .ok (.getfield 51, 3)) ∧ (decode cX11_init 109 = .ok (.invokespecial 57, 3)) ∧ (decode cX11_init 112 = .ok (.putfield 60, 3)) ∧ (decode cX11_init 115 = .ok (.aload_n 0, 1)) ∧ (decode cX11_init 116 = .ok (.new 64, 3)) ∧ (decode cX11_init 119 = .ok (.dup, 1)) ∧ (decode cX11_init 120 = .ok (.aload_n 0, 1)) ∧ (decode cX11_init 121 = .ok (.getfield 12, 3)) := by decide +kernel
theorem dX11_init_102 : decode cX11_init 102 = .ok (.getfield 42, 3) := dX11_init_102g.1
theorem dX11_init_105 : decode cX11_init 105 = .ok (.aload_n 0, 1) := dX11_init_102g.2.1
theorem dX11_init_106 : decode cX11_init 106 = .ok (.getfield 51, 3) := dX11_init_102g.2.2.1
theorem dX11_init_109 : decode cX11_init 109 = .ok (.invokespecial 57, 3) := dX11_init_102g.2.2.2.1
theorem dX11_init_112 : decode cX11_init 112 = .ok (.putfield 60, 3) := dX11_init_102g.2.2.2.2.1
theorem dX11_init_115 : decode cX11_init 115 = .ok (.aload_n 0, 1) := dX11_init_102g.2.2.2.2.2.1
theorem dX11_init_116 : decode cX11_init 116 = .ok (.new 64, 3) := dX11_init_102g.2.2.2.2.2.2.1
theorem dX11_init_119 : decode cX11_init 119 = .ok (.dup, 1) := dX11_init_102g.2.2.2.2.2.2.2.1
theorem dX11_init_120 : decode cX11_init 120 = .ok (.aload_n 0, 1) := dX11_init_102g.2.2.2.2.2.2.2.2.1
theorem dX11_init_121 : decode cX11_init 121 = .ok (.getfield 12, 3) := dX11_init_102g.2.2.2.2.2.2.2.2.2
theorem dX11_init_124g : (decode cX11_init 124 = .ok (.aload_n 0, 1)) ∧ (decode cX11_init 125 = .ok (.getfield 51, 3)) ∧ (decode cX11_init 128 = .ok (.invokespecial 66, 3)) ∧ (decode cX11_init 131 = .ok (.putfield 69, 3)) ∧ (decode cX11_init 134 = .ok (.aload_n 0, 1)) ∧ (decode cX11_init 135 = .ok (.new 73, 3)) ∧ (decode cX11_init 138 = .ok (.dup, 1)) ∧ (decode cX11_init 139 = .ok (.aload_n 0, 1)) ∧ (decode cX11_init 140 = .ok (.getfield 42, 3)) ∧ (decode cX11_init 143 = .ok (.invokespecial 75, 3)) := by decide +kernel
theorem dX11_init_124 : decode cX11_init 124 = .ok (.aload_n 0, 1) := dX11_init_124g.1
theorem dX11_init_125 : decode cX11_init 125 = .ok (.getfield 51, 3) := dX11_init_124g.2.1
theorem dX11_init_128 : decode cX11_init 128 = .ok (.invokespecial 66, 3) := dX11_init_124g.2.2.1
theorem dX11_init_131 : decode cX11_init 131 = .ok (.putfield 69, 3) := dX11_init_124g.2.2.2.1
theorem dX11_init_134 : decode cX11_init 134 = .ok (.aload_n 0, 1) := dX11_init_124g.2.2.2.2.1
theorem dX11_init_135 : decode cX11_init 135 = .ok (.new 73, 3) := dX11_init_124g.2.2.2.2.2.1
theorem dX11_init_138 : decode cX11_init 138 = .ok (.dup, 1) := dX11_init_124g.2.2.2.2.2.2.1
theorem dX11_init_139 : decode cX11_init 139 = .ok (.aload_n 0, 1) := dX11_init_124g.2.2.2.2.2.2.2.1
theorem dX11_init_140 : decode cX11_init 140 = .ok (.getfield 42, 3) := dX11_init_124g.2.2.2.2.2.2.2.2.1
theorem dX11_init_143 : decode cX11_init 143 = .ok (.invokespecial 75, 3) := dX11_init_124g.2.2.2.2.2.2.2.2.2
theorem dX11_init_146g : (decode cX11_init 146 = .ok (.putfield 78, 3)) ∧ (decode cX11_init 149 = .ok (.aload_n 0, 1)) ∧ (decode cX11_init 150 = .ok (.new 82, 3)) ∧ (decode cX11_init 153 = .ok (.dup, 1)) ∧ (decode cX11_init 154 = .ok (.aload_n 0, 1)) ∧ (decode cX11_init 155 = .ok (.getfield 12, 3)) ∧ (decode cX11_init 158 = .ok (.aload_n 0, 1)) ∧ (decode cX11_init 159 = .ok (.getfield 42, 3)) ∧ (decode cX11_init 162 = .ok (.aload_n 0, 1)) ∧ (decode cX11_init 163 = .ok (.getfield 51, 3)) := by decide +kernel
theorem dX11_init_146 : decode cX11_init 146 = .ok (.putfield 78, 3) := dX11_init_146g.1
theorem dX11_init_149 : decode cX11_init 149 = .ok (.aload_n 0, 1) := dX11_init_146g.2.1
theorem dX11_init_150 : decode cX11_init 150 = .ok (.new 82, 3) := dX11_init_146g.2.2.1
theorem dX11_init_153 : decode cX11_init 153 = .ok (.dup, 1) := dX11_init_146g.2.2.2.1
theorem dX11_init_154 : decode cX11_init 154 = .ok (.aload_n 0, 1) := dX11_init_146g.2.2.2.2.1
theorem dX11_init_155 : decode cX11_init 155 = .ok (.getfield 12, 3) := dX11_init_146g.2.2.2.2.2.1
theorem dX11_init_158 : decode cX11_init 158 = .ok (.aload_n 0, 1) := dX11_init_146g.2.2.2.2.2.2.1
theorem dX11_init_159 : decode cX11_init 159 = .ok (.getfield 42, 3) := dX11_init_146g.2.2.2.2.2.2.2.1
theorem dX11_init_162 : decode cX11_init 162 = .ok (.aload_n 0, 1) := dX11_init_146g.2.2.2.2.2.2.2.2.1
theorem dX11_init_163 : decode cX11_init 163 = .ok (.getfield 51, 3) := dX11_init_146g.2.2.2.2.2.2.2.2.2
theorem dX11_init_166g : (decode cX11_init 166 = .ok (.invokespecial 84, 3)) ∧ (decode cX11_init 169 = .ok (.putfield 85, 3)) ∧ (decode cX11_init 172 = .ok (.aload_n 0, 1)) ∧ (decode cX11_init 173 = .ok (.iconst 0, 1)) ∧ (decode cX11_init 174 = .ok (.putfield 89, 3)) ∧ (decode cX11_init 177 = .ok (.aload_n 0, 1)) ∧ (decode cX11_init 178 = .ok (.iconst (-1), 1)) ∧ (decode cX11_init 179 = .ok (.putfield 93, 3)) ∧ (decode cX11_init 182 = .ok (.aload_n 0, 1)) ∧ (decode cX11_init 183 = .ok (.iconst 0, 1)) := by decide +kernel
theorem dX11_init_166 : decode cX11_init 166 = .ok (.invokespecial 84, 3) := dX11_init_166g.1
theorem dX11_init_169 : decode cX11_init 169 = .ok (.putfield 85, 3) := dX11_init_166g.2.1
theorem dX11_init_172 : decode cX11_init 172 = .ok (.aload_n 0, 1) := dX11_init_166g.2.2.1
theorem dX11_init_173 : decode cX11_init 173 = .ok (.iconst 0, 1) := dX11_init_166g.2.2.2.1
theorem dX11_init_174 : decode cX11_init 174 = .ok (.putfield 89, 3) := dX11_init_166g.2.2.2.2.1
theorem dX11_init_177 : decode cX11_init 177 = .ok (.aload_n 0, 1) := dX11_init_166g.2.2.2.2.2.1
theorem dX11_init_178 : decode cX11_init 178 = .ok (.iconst (-1), 1) := dX11_init_166g.2.2.2.2.2.2.1
theorem dX11_init_179 : decode cX11_init 179 = .ok (.putfield 93, 3) := dX11_init_166g.2.2.2.2.2.2.2.1
theorem dX11_init_182 : decode cX11_init 182 = .ok (.aload_n 0, 1) := dX11_init_166g.2.2.2.2.2.2.2.2.1
theorem dX11_init_183 : decode cX11_init 183 = .ok (.iconst 0, 1) := dX11_init_166g.2.2.2.2.2.2.2.2.2
theorem dX11_init_184g : (decode cX11_init 184 = .ok (.putfield 96, 3)) ∧ (decode cX11_init 187 = .ok (.aload_n 0, 1)) ∧ (decode cX11_init 188 = .ok (.iconst 0, 1)) ∧ (decode cX11_init 189 = .ok (.putfield 99, 3)) ∧ (decode cX11_init 192 = .ok (.aload_n 0, 1)) ∧ (decode cX11_init 193 = .ok (.iconst 0, 1)) ∧ (decode cX11_init 194 = .ok (.putfield 102, 3)) ∧ (decode cX11_init 197 = .ok (.return_, 1)) := by decide +kernel
theorem dX11_init_184 : decode cX11_init 184 = .ok (.putfield 96, 3) := dX11_init_184g.1
theorem dX11_init_187 : decode cX11_init 187 = .ok (.aload_n 0, 1) := dX11_init_184g.2.1
theorem dX11_init_188 : decode cX11_init 188 = .ok (.iconst 0, 1) := dX11_init_184g.2.2.1
theorem dX11_init_189 : decode cX11_init 189 = .ok (.putfield 99, 3) := dX11_init_184g.2.2.2.1
theorem dX11_init_192 : decode cX11_init 192 = .ok (.aload_n 0, 1) := dX11_init_184g.2.2.2.2.1
theorem dX11_init_193 : decode cX11_init 193 = .ok (.iconst 0, 1) := dX11_init_184g.2.2.2.2.2.1
theorem dX11_init_194 : decode cX11_init 194 = .ok (.putfield 102, 3) := dX11_init_184g.2.2.2.2.2.2.1
theorem dX11_init_197 : decode cX11_init 197 = .ok (.return_, 1) := dX11_init_184g.2.2.2.2.2.2.2
set_option maxHeartbeats 4000000 in
set_option maxRecDepth 100000 in
theorem c_X11_init (l : Launch) (E : Nat → Nat) (D : va_G) (Gi : th_G) (h0 sz : Nat) (hn0 : Gi h0 = none) (hE : ∀ k : Nat, (32 + 8 * h0 ≤ k ∧ k < 40 + 8 * h0) ∨ 32 + 8 * sz ≤ k → E k = 0)  : Met l yX11_init (tb (.code yX11_init cX11_init 1 none)) ({ frames := 3, cells := 58, slots := 13966, locals := 120 } : Room) (va_Pc [.ref h0] (fun U => U.heap.size = sz ∧ th_P E D Gi U ∧ va_at D vwCl (h0, .inr (11, [.null, .null, .null, .null, .null, .null, .null, .null, .null, .null, .null, .null, .int 0, .int 0, .int 0, .int 0, .int 0])) U.heap ∧ th_AO U)) (QN E D Gi h0 sz) 58 13966 (mA Gi h0 sz) := by
  refine Met.ofW (cc := cX11_init) (maxL := 1) (ret := none) (by decide) rfl ?_
  intro p e s m args below meth c s₁ B hml hv
  obtain ⟨hav, rfl, ⟨hI, hN, hK⟩, hO, hAO⟩ := hv
  have hx := B.exec
  have hb := B.bytes
  have hr := B.returns
  have hts := atoms_spec (ws := tb (.code yX11_init cX11_init 1 none)) B.pre
  have hown : s.vm.findClass RX11 = some m.cls := findClass_of_methodNamed B.named
  have hlocks := B.notSynchronized
  have hin : meth.name = "<init>" := (name_of_methodNamed B.named B.method).1
  have hl := lv_entry ([.ref h0]) (n := 1) (Nat.le_of_ble_eq_true rfl)
  rw [show entryFrame m args 1 = entryFrame m ([.ref h0] : List Value).toArray 1 from by rw [hav], lg_entry_eq]
  generalize (lg_sl ([.ref h0]) ++ List.replicate (1 - (lg_sl ([.ref h0])).length) Slot.unset).toArray = ls at hl ⊢
  have hl : lv_has ls 1 [(0, .ref h0)] := hl
  generalize hR : (headSpec (tb (.code yX11_init cX11_init 1 none)) ({ frames := 3, cells := 58, slots := 13966, locals := 120 } : Room)).room = R
  have hR := hR.symm
  generalize hAe : mA Gi h0 s.heap.size = A
  have hA : ∀ q : Nat, s.heap.size ≤ q → A q := fun q h => by rw [← hAe]; exact Or.inr (Or.inr h)
  have hA0 : A h0 := by rw [← hAe]; exact Or.inr (Or.inl rfl)
  have hS : va_S A s.heap s.heap [] := va_S.rf
  obtain ⟨G, hle0, hI, hn0, hAG⟩ : ∃ G, gle Gi G ∧ th_I (okC E) D G [] s.heap ∧ G h0 = none ∧ (∀ (r : Nat) (k : th_K), G r = some k → A r) := ⟨Gi, gle.rf, hI, hn0, fun r k h => by rw [← hAe]; exact Or.inl ⟨k, h⟩⟩
  refine lv_aload_n hx hb dX11_init_0 rfl (lv_at hl 0 rfl) ?_
  refine W.objInit hx hb hown (hts _ (tb_c wd_27)) (hts _ (tb_c wd_28)) (hts _ (tb_c wd_oinit)) rfl (by rw [hml]; exact hl.1) rfl dX11_init_1 (by rw [hR]; exact Nat.le_of_ble_eq_true rfl) (by rw [hR]; exact Nat.le_of_ble_eq_true rfl) ?_
  refine W.eq (g2 := F0 m 4 ls []) rfl ?_
  refine lv_aload_n hx hb dX11_init_4 rfl (lv_at hl 0 rfl) ?_
  refine th_newo (ci := 6) (fs := [.null, .null, .null, .null, .null, .null, .null, .null, .null, .null, .int 0, .int 0, .int 0, .int 0]) hx hb hts inT6 tyX6 tyX6_ok hown (hts _ (tb_c wd_30)) (hts _ (tb_c wd_31)) (hts _ (tb_c wd_2)) hK hI hS rfl (fun j hj => by rcases (show j = 0 ∨ j = 1 ∨ j = 2 ∨ j = 3 ∨ j = 4 ∨ j = 5 ∨ j = 6 ∨ j = 7 ∨ j = 8 ∨ j = 9 ∨ j = 10 ∨ j = 11 ∨ j = 12 ∨ j = 13 by omega) with rfl | rfl | rfl | rfl | rfl | rfl | rfl | rfl | rfl | rfl | rfl | rfl | rfl | rfl <;> rfl) (by rw [hR]; exact Nat.le_of_ble_eq_true rfl) (by rw [hR]; exact Nat.le_of_ble_eq_true rfl) dX11_init_5 (fun a1 H hqe hnn hnsz hOn o1 hI hS => ?_)
  have hlt0 : h0 < _ := hO.lt
  have hne0 : h0 ≠ a1 := by omega
  have hO := hO.kept (o1 _ hlt0)
  have hlt_a1 : h0 < a1 := by omega
  refine lv_dup hx hb dX11_init_8 rfl ?_
  refine th_cI (As := []) (rest := [.ref a1, .ref h0]) (n := 0) ⟨hx, hb, hml, hown, hts⟩ (c_X6_init l E D G a1 H.size hnn (fun k h => hE k (by have := hS.1; omega)) ) wd_32 wd_33 wd_2 wd_34 (by decide +kernel) ⟨by rw [hR]; exact Nat.le_of_ble_eq_true rfl, by rw [hR]; exact Nat.le_of_ble_eq_true rfl⟩ hI hN hAO hK hOn hnn hnsz hS hA hAG rfl hl.1 rfl (Nat.le_of_ble_eq_true rfl) dX11_init_9 ⟨by rw [hR]; exact Nat.le_of_ble_eq_true rfl, by rw [hR]; exact Nat.le_of_ble_eq_true rfl⟩ (fun G H locs hle hq2 hAG hGne hk hI hS => ?_)
  have hlt0 : h0 < _ := hO.lt
  have hO := hO.kept (hk _ hlt0 hn0 hne0)
  have hn0 : G h0 = none := hGne _ hlt0 hn0 hne0
  have hle0 := hle0.tr hle
  refine th_putF (ty := (.object "NineRiver$State")) hx hb hts inT11 tyX11 tyX11_ok nmX11 hown hK hO hS hA0 rfl 0 (by decide) (hts _ (tb_c wd_345)) rfl hin rfl (by decide +kernel) rfl rfl (Nat.le_of_ble_eq_true rfl) dX11_init_12 (fun H locs hO oq hS => ?_)
  have hI := th_raw hI hn0 oq
  have hO : va_at D vwCl (h0, .inr (11, [.ref a1, .null, .null, .null, .null, .null, .null, .null, .null, .null, .null, .null, .int 0, .int 0, .int 0, .int 0, .int 0])) H := hO
  refine lv_aload_n hx hb dX11_init_15 rfl (lv_at hl 0 rfl) ?_
  refine lv_iconst (v := 2) hx hb dX11_init_16 (by decide) ?_
  refine th_newq (t := 3) hx hb hown (hts _ (tb_c wd_30)) (va_AO.use hAO.2) hK 5 rfl hI hS hA hAG 2 (by decide) (by decide) (by decide) (by rw [hR]; exact Nat.le_of_ble_eq_true rfl) (by rw [hR]; exact Nat.le_of_ble_eq_true rfl) dX11_init_17 (fun _ => ok_3 (fun j q _ h => by cases h) ⟨by rw [hE _ (by have := hS.1; omega)]; rfl, by rw [hE _ (by have := hS.1; omega)]; rfl⟩) (fun G a3 H hle hq4 hAG hqe hGne o1 hI hS => ?_)
  have hlt0 : h0 < _ := hO.lt
  have hn0 : G h0 = none := (hGne h0 (by omega)).trans hn0
  have hO := hO.kept (o1 _ hlt0)
  have hq2 := hle _ _ hq2
  have hle0 := hle0.tr hle
  refine th_putF (ty := (.array (.object "NineRiver$State"))) hx hb hts inT11 tyX11 tyX11_ok nmX11 hown hK hO hS hA0 rfl 1 (by decide) (hts _ (tb_c wd_346)) rfl hin rfl (by decide +kernel) rfl rfl (Nat.le_of_ble_eq_true rfl) dX11_init_20 (fun H locs hO oq hS => ?_)
  have hI := th_raw hI hn0 oq
  have hO : va_at D vwCl (h0, .inr (11, [.ref a1, .ref a3, .null, .null, .null, .null, .null, .null, .null, .null, .null, .null, .int 0, .int 0, .int 0, .int 0, .int 0])) H := hO
  refine lv_aload_n hx hb dX11_init_23 rfl (lv_at hl 0 rfl) ?_
  refine lv_sipush (v := 400) hx hb dX11_init_24 (by decide) ?_
  refine th_newi hx hb (hts _ (tb_c wd_55)) hK hI hS hA hAG 400 (by decide) (by decide) (by decide) (by rw [hR]; exact Nat.le_of_ble_eq_true rfl) (by rw [hR]; exact Nat.le_of_ble_eq_true rfl) dX11_init_27 (fun G a5 H hle hq6 hAG hqe hGne o1 hI hS => ?_)
  have hlt0 : h0 < _ := hO.lt
  have hn0 : G h0 = none := (hGne h0 (by omega)).trans hn0
  have hO := hO.kept (o1 _ hlt0)
  have hq2 := hle _ _ hq2
  have hq4 := hle _ _ hq4
  have hle0 := hle0.tr hle
  refine th_putF (ty := (.array .int)) hx hb hts inT11 tyX11 tyX11_ok nmX11 hown hK hO hS hA0 rfl 2 (by decide) (hts _ (tb_c wd_347)) rfl hin rfl (by decide +kernel) rfl rfl (Nat.le_of_ble_eq_true rfl) dX11_init_29 (fun H locs hO oq hS => ?_)
  have hI := th_raw hI hn0 oq
  have hO : va_at D vwCl (h0, .inr (11, [.ref a1, .ref a3, .ref a5, .null, .null, .null, .null, .null, .null, .null, .null, .null, .int 0, .int 0, .int 0, .int 0, .int 0])) H := hO
  refine lv_aload_n hx hb dX11_init_32 rfl (lv_at hl 0 rfl) ?_
  refine lv_iconst (v := 5) hx hb dX11_init_33 (by decide) ?_
  refine th_newi hx hb (hts _ (tb_c wd_55)) hK hI hS hA hAG 5 (by decide) (by decide) (by decide) (by rw [hR]; exact Nat.le_of_ble_eq_true rfl) (by rw [hR]; exact Nat.le_of_ble_eq_true rfl) dX11_init_34 (fun G a7 H hle hq8 hAG hqe hGne o1 hI hS => ?_)
  have hlt0 : h0 < _ := hO.lt
  have hn0 : G h0 = none := (hGne h0 (by omega)).trans hn0
  have hO := hO.kept (o1 _ hlt0)
  have hq2 := hle _ _ hq2
  have hq4 := hle _ _ hq4
  have hq6 := hle _ _ hq6
  have hle0 := hle0.tr hle
  refine th_putF (ty := (.array .int)) hx hb hts inT11 tyX11 tyX11_ok nmX11 hown hK hO hS hA0 rfl 3 (by decide) (hts _ (tb_c wd_348)) rfl hin rfl (by decide +kernel) rfl rfl (Nat.le_of_ble_eq_true rfl) dX11_init_36 (fun H locs hO oq hS => ?_)
  have hI := th_raw hI hn0 oq
  have hO : va_at D vwCl (h0, .inr (11, [.ref a1, .ref a3, .ref a5, .ref a7, .null, .null, .null, .null, .null, .null, .null, .null, .int 0, .int 0, .int 0, .int 0, .int 0])) H := hO
  refine lv_aload_n hx hb dX11_init_39 rfl (lv_at hl 0 rfl) ?_
  refine lv_bipush (v := 24) hx hb dX11_init_40 (by decide) ?_
  refine th_newi hx hb (hts _ (tb_c wd_55)) hK hI hS hA hAG 24 (by decide) (by decide) (by decide) (by rw [hR]; exact Nat.le_of_ble_eq_true rfl) (by rw [hR]; exact Nat.le_of_ble_eq_true rfl) dX11_init_42 (fun G a9 H hle hq10 hAG hqe hGne o1 hI hS => ?_)
  have hlt0 : h0 < _ := hO.lt
  have hn0 : G h0 = none := (hGne h0 (by omega)).trans hn0
  have hO := hO.kept (o1 _ hlt0)
  have hq2 := hle _ _ hq2
  have hq4 := hle _ _ hq4
  have hq6 := hle _ _ hq6
  have hq8 := hle _ _ hq8
  have hle0 := hle0.tr hle
  refine th_putF (ty := (.array .int)) hx hb hts inT11 tyX11 tyX11_ok nmX11 hown hK hO hS hA0 rfl 4 (by decide) (hts _ (tb_c wd_349)) rfl hin rfl (by decide +kernel) rfl rfl (Nat.le_of_ble_eq_true rfl) dX11_init_44 (fun H locs hO oq hS => ?_)
  have hI := th_raw hI hn0 oq
  have hO : va_at D vwCl (h0, .inr (11, [.ref a1, .ref a3, .ref a5, .ref a7, .ref a9, .null, .null, .null, .null, .null, .null, .null, .int 0, .int 0, .int 0, .int 0, .int 0])) H := hO
  refine lv_aload_n hx hb dX11_init_47 rfl (lv_at hl 0 rfl) ?_
  refine th_newo (ci := 3) (fs := [.null, .null, .null, .null, .null, .null, .int 0, .int 0, .int 0, .int 0, .int 0, .int 0]) hx hb hts inT3 tyX3 tyX3_ok hown (hts _ (tb_c wd_123)) (hts _ (tb_c wd_124)) (hts _ (tb_c wd_5)) hK hI hS rfl (fun j hj => by rcases (show j = 0 ∨ j = 1 ∨ j = 2 ∨ j = 3 ∨ j = 4 ∨ j = 5 ∨ j = 6 ∨ j = 7 ∨ j = 8 ∨ j = 9 ∨ j = 10 ∨ j = 11 by omega) with rfl | rfl | rfl | rfl | rfl | rfl | rfl | rfl | rfl | rfl | rfl | rfl <;> rfl) (by rw [hR]; exact Nat.le_of_ble_eq_true rfl) (by rw [hR]; exact Nat.le_of_ble_eq_true rfl) dX11_init_48 (fun a11 H hqe hnn hnsz hOn o1 hI hS => ?_)
  have hlt0 : h0 < _ := hO.lt
  have hne0 : h0 ≠ a11 := by omega
  have hO := hO.kept (o1 _ hlt0)
  have hlt_a11 : h0 < a11 := by omega
  refine lv_dup hx hb dX11_init_51 rfl ?_
  refine th_cIN (As := []) (rest := [.ref a11, .ref h0]) (n := 0) ⟨hx, hb, hml, hown, hts⟩ (c_X3_init l E D G a11 H.size hnn (fun k h => hE k (by have := hS.1; omega)) ) wn_125 wd_126 wd_5 wd_127 (by decide +kernel) ⟨by rw [hR]; exact Nat.le_of_ble_eq_true rfl, by rw [hR]; exact Nat.le_of_ble_eq_true rfl⟩ hI hN hAO hK hOn hnn hnsz hS hA hAG rfl hl.1 rfl (Nat.le_of_ble_eq_true rfl) dX11_init_52 ⟨by rw [hR]; exact Nat.le_of_ble_eq_true rfl, by rw [hR]; exact Nat.le_of_ble_eq_true rfl⟩ (fun G H locs hle hq12 hAG hGne hk hI hS => ?_)
  have hlt0 : h0 < _ := hO.lt
  have hO := hO.kept (hk _ hlt0 hn0 hne0)
  have hn0 : G h0 = none := hGne _ hlt0 hn0 hne0
  have hq2 := hle _ _ hq2
  have hq4 := hle _ _ hq4
  have hq6 := hle _ _ hq6
  have hq8 := hle _ _ hq8
  have hq10 := hle _ _ hq10
  have hle0 := hle0.tr hle
  refine th_putF (ty := (.object "NineRiver$Reader")) hx hb hts inT11 tyX11 tyX11_ok nmX11 hown hK hO hS hA0 rfl 5 (by decide) (hts _ (tb_c wd_350)) rfl hin rfl (by decide +kernel) rfl rfl (Nat.le_of_ble_eq_true rfl) dX11_init_55 (fun H locs hO oq hS => ?_)
  have hI := th_raw hI hn0 oq
  have hO : va_at D vwCl (h0, .inr (11, [.ref a1, .ref a3, .ref a5, .ref a7, .ref a9, .ref a11, .null, .null, .null, .null, .null, .null, .int 0, .int 0, .int 0, .int 0, .int 0])) H := hO
  refine lv_aload_n hx hb dX11_init_58 rfl (lv_at hl 0 rfl) ?_
  refine th_newo (ci := 7) (fs := [.null, .null, .null, .null, .null, .null, .int 0]) hx hb hts inT7 tyX7 tyX7_ok hown (hts _ (tb_c wd_166)) (hts _ (tb_c wd_167)) (hts _ (tb_c wd_6)) hK hI hS rfl (fun j hj => by rcases (show j = 0 ∨ j = 1 ∨ j = 2 ∨ j = 3 ∨ j = 4 ∨ j = 5 ∨ j = 6 by omega) with rfl | rfl | rfl | rfl | rfl | rfl | rfl <;> rfl) (by rw [hR]; exact Nat.le_of_ble_eq_true rfl) (by rw [hR]; exact Nat.le_of_ble_eq_true rfl) dX11_init_59 (fun a13 H hqe hnn hnsz hOn o1 hI hS => ?_)
  have hlt0 : h0 < _ := hO.lt
  have hne0 : h0 ≠ a13 := by omega
  have hO := hO.kept (o1 _ hlt0)
  have hlt_a13 : h0 < a13 := by omega
  refine lv_dup hx hb dX11_init_62 rfl ?_
  refine lv_aload_n hx hb dX11_init_63 rfl (lv_at hl 0 rfl) ?_
  refine th_get hx hb hts inT11 hown hK hO rfl 0 (by decide) (hts _ (tb_c wd_345)) rfl rfl dX11_init_64 ?_
  refine th_cI (As := [.ref a1]) (rest := [.ref a13, .ref h0]) (n := 1) ⟨hx, hb, hml, hown, hts⟩ (c_X7_init l E D G a13 H.size hnn (fun k h => hE k (by have := hS.1; omega)) a1 hq2) wd_168 wd_169 wd_6 wd_170 (by decide +kernel) ⟨by rw [hR]; exact Nat.le_of_ble_eq_true rfl, by rw [hR]; exact Nat.le_of_ble_eq_true rfl⟩ hI hN hAO hK hOn hnn hnsz hS hA hAG rfl hl.1 rfl (Nat.le_of_ble_eq_true rfl) dX11_init_67 ⟨by rw [hR]; exact Nat.le_of_ble_eq_true rfl, by rw [hR]; exact Nat.le_of_ble_eq_true rfl⟩ (fun G H locs hle hq14 hAG hGne hk hI hS => ?_)
  have hlt0 : h0 < _ := hO.lt
  have hO := hO.kept (hk _ hlt0 hn0 hne0)
  have hn0 : G h0 = none := hGne _ hlt0 hn0 hne0
  have hq2 := hle _ _ hq2
  have hq4 := hle _ _ hq4
  have hq6 := hle _ _ hq6
  have hq8 := hle _ _ hq8
  have hq10 := hle _ _ hq10
  have hq12 := hle _ _ hq12
  have hle0 := hle0.tr hle
  refine th_putF (ty := (.object "NineRiver$Stream")) hx hb hts inT11 tyX11 tyX11_ok nmX11 hown hK hO hS hA0 rfl 6 (by decide) (hts _ (tb_c wd_351)) rfl hin rfl (by decide +kernel) rfl rfl (Nat.le_of_ble_eq_true rfl) dX11_init_70 (fun H locs hO oq hS => ?_)
  have hI := th_raw hI hn0 oq
  have hO : va_at D vwCl (h0, .inr (11, [.ref a1, .ref a3, .ref a5, .ref a7, .ref a9, .ref a11, .ref a13, .null, .null, .null, .null, .null, .int 0, .int 0, .int 0, .int 0, .int 0])) H := hO
  refine lv_aload_n hx hb dX11_init_73 rfl (lv_at hl 0 rfl) ?_
  refine th_newo (ci := 9) (fs := [.null, .null, .null, .null]) hx hb hts inT9 tyX9 tyX9_ok hown (hts _ (tb_c wd_211)) (hts _ (tb_c wd_212)) (hts _ (tb_c wd_8)) hK hI hS rfl (fun j hj => by rcases (show j = 0 ∨ j = 1 ∨ j = 2 ∨ j = 3 by omega) with rfl | rfl | rfl | rfl <;> rfl) (by rw [hR]; exact Nat.le_of_ble_eq_true rfl) (by rw [hR]; exact Nat.le_of_ble_eq_true rfl) dX11_init_74 (fun a15 H hqe hnn hnsz hOn o1 hI hS => ?_)
  have hlt0 : h0 < _ := hO.lt
  have hne0 : h0 ≠ a15 := by omega
  have hO := hO.kept (o1 _ hlt0)
  have hlt_a15 : h0 < a15 := by omega
  refine lv_dup hx hb dX11_init_77 rfl ?_
  refine lv_aload_n hx hb dX11_init_78 rfl (lv_at hl 0 rfl) ?_
  refine th_get hx hb hts inT11 hown hK hO rfl 0 (by decide) (hts _ (tb_c wd_345)) rfl rfl dX11_init_79 ?_
  refine lv_aload_n hx hb dX11_init_82 rfl (lv_at hl 0 rfl) ?_
  refine th_get hx hb hts inT11 hown hK hO rfl 6 (by decide) (hts _ (tb_c wd_351)) rfl rfl dX11_init_83 ?_
  refine th_cI (As := [.ref a1, .ref a13]) (rest := [.ref a15, .ref h0]) (n := 2) ⟨hx, hb, hml, hown, hts⟩ (c_X9_init l E D G a15 H.size hnn (fun k h => hE k (by have := hS.1; omega)) a1 hq2 a13 hq14) wd_213 wd_214 wd_8 wd_215 (by decide +kernel) ⟨by rw [hR]; exact Nat.le_of_ble_eq_true rfl, by rw [hR]; exact Nat.le_of_ble_eq_true rfl⟩ hI hN hAO hK hOn hnn hnsz hS hA hAG rfl hl.1 rfl (Nat.le_of_ble_eq_true rfl) dX11_init_86 ⟨by rw [hR]; exact Nat.le_of_ble_eq_true rfl, by rw [hR]; exact Nat.le_of_ble_eq_true rfl⟩ (fun G H locs hle hq16 hAG hGne hk hI hS => ?_)
  have hlt0 : h0 < _ := hO.lt
  have hO := hO.kept (hk _ hlt0 hn0 hne0)
  have hn0 : G h0 = none := hGne _ hlt0 hn0 hne0
  have hq2 := hle _ _ hq2
  have hq4 := hle _ _ hq4
  have hq6 := hle _ _ hq6
  have hq8 := hle _ _ hq8
  have hq10 := hle _ _ hq10
  have hq12 := hle _ _ hq12
  have hq14 := hle _ _ hq14
  have hle0 := hle0.tr hle
  refine th_putF (ty := (.object "NineRiver$Travel")) hx hb hts inT11 tyX11 tyX11_ok nmX11 hown hK hO hS hA0 rfl 7 (by decide) (hts _ (tb_c wd_352)) rfl hin rfl (by decide +kernel) rfl rfl (Nat.le_of_ble_eq_true rfl) dX11_init_89 (fun H locs hO oq hS => ?_)
  have hI := th_raw hI hn0 oq
  have hO : va_at D vwCl (h0, .inr (11, [.ref a1, .ref a3, .ref a5, .ref a7, .ref a9, .ref a11, .ref a13, .ref a15, .null, .null, .null, .null, .int 0, .int 0, .int 0, .int 0, .int 0])) H := hO
  refine lv_aload_n hx hb dX11_init_92 rfl (lv_at hl 0 rfl) ?_
  refine th_newo (ci := 1) (fs := [.null, .null, .null, .null, .null, .null, .null, .null, .int 0, .int 0, .int 0]) hx hb hts inT1 tyX1 tyX1_ok hown (hts _ (tb_c wd_230)) (hts _ (tb_c wd_231)) (hts _ (tb_c wd_9)) hK hI hS rfl (fun j hj => by rcases (show j = 0 ∨ j = 1 ∨ j = 2 ∨ j = 3 ∨ j = 4 ∨ j = 5 ∨ j = 6 ∨ j = 7 ∨ j = 8 ∨ j = 9 ∨ j = 10 by omega) with rfl | rfl | rfl | rfl | rfl | rfl | rfl | rfl | rfl | rfl | rfl <;> rfl) (by rw [hR]; exact Nat.le_of_ble_eq_true rfl) (by rw [hR]; exact Nat.le_of_ble_eq_true rfl) dX11_init_93 (fun a17 H hqe hnn hnsz hOn o1 hI hS => ?_)
  have hlt0 : h0 < _ := hO.lt
  have hne0 : h0 ≠ a17 := by omega
  have hO := hO.kept (o1 _ hlt0)
  have hlt_a17 : h0 < a17 := by omega
  refine lv_dup hx hb dX11_init_96 rfl ?_
  refine lv_aload_n hx hb dX11_init_97 rfl (lv_at hl 0 rfl) ?_
  refine th_get hx hb hts inT11 hown hK hO rfl 0 (by decide) (hts _ (tb_c wd_345)) rfl rfl dX11_init_98 ?_
  refine lv_aload_n hx hb dX11_init_101 rfl (lv_at hl 0 rfl) ?_
  refine th_get hx hb hts inT11 hown hK hO rfl 6 (by decide) (hts _ (tb_c wd_351)) rfl rfl dX11_init_102 ?_
  refine lv_aload_n hx hb dX11_init_105 rfl (lv_at hl 0 rfl) ?_
  refine th_get hx hb hts inT11 hown hK hO rfl 7 (by decide) (hts _ (tb_c wd_352)) rfl rfl dX11_init_106 ?_
  refine th_cI (As := [.ref a1, .ref a13, .ref a15]) (rest := [.ref a17, .ref h0]) (n := 3) ⟨hx, hb, hml, hown, hts⟩ (c_X1_init l E D G a17 H.size hnn (fun k h => hE k (by have := hS.1; omega)) a1 hq2 a13 hq14 a15 hq16) wd_232 wd_233 wd_9 wd_234 (by decide +kernel) ⟨by rw [hR]; exact Nat.le_of_ble_eq_true rfl, by rw [hR]; exact Nat.le_of_ble_eq_true rfl⟩ hI hN hAO hK hOn hnn hnsz hS hA hAG rfl hl.1 rfl (Nat.le_of_ble_eq_true rfl) dX11_init_109 ⟨by rw [hR]; exact Nat.le_of_ble_eq_true rfl, by rw [hR]; exact Nat.le_of_ble_eq_true rfl⟩ (fun G H locs hle hq18 hAG hGne hk hI hS => ?_)
  have hlt0 : h0 < _ := hO.lt
  have hO := hO.kept (hk _ hlt0 hn0 hne0)
  have hn0 : G h0 = none := hGne _ hlt0 hn0 hne0
  have hq2 := hle _ _ hq2
  have hq4 := hle _ _ hq4
  have hq6 := hle _ _ hq6
  have hq8 := hle _ _ hq8
  have hq10 := hle _ _ hq10
  have hq12 := hle _ _ hq12
  have hq14 := hle _ _ hq14
  have hq16 := hle _ _ hq16
  have hle0 := hle0.tr hle
  refine th_putF (ty := (.object "NineRiver$Dyes")) hx hb hts inT11 tyX11 tyX11_ok nmX11 hown hK hO hS hA0 rfl 8 (by decide) (hts _ (tb_c wd_353)) rfl hin rfl (by decide +kernel) rfl rfl (Nat.le_of_ble_eq_true rfl) dX11_init_112 (fun H locs hO oq hS => ?_)
  have hI := th_raw hI hn0 oq
  have hO : va_at D vwCl (h0, .inr (11, [.ref a1, .ref a3, .ref a5, .ref a7, .ref a9, .ref a11, .ref a13, .ref a15, .ref a17, .null, .null, .null, .int 0, .int 0, .int 0, .int 0, .int 0])) H := hO
  refine lv_aload_n hx hb dX11_init_115 rfl (lv_at hl 0 rfl) ?_
  refine th_newo (ci := 5) (fs := [.null, .null, .null, .null, .int 0, .int 0]) hx hb hts inT5 tyX5 tyX5_ok hown (hts _ (tb_c wd_270)) (hts _ (tb_c wd_271)) (hts _ (tb_c wd_10)) hK hI hS rfl (fun j hj => by rcases (show j = 0 ∨ j = 1 ∨ j = 2 ∨ j = 3 ∨ j = 4 ∨ j = 5 by omega) with rfl | rfl | rfl | rfl | rfl | rfl <;> rfl) (by rw [hR]; exact Nat.le_of_ble_eq_true rfl) (by rw [hR]; exact Nat.le_of_ble_eq_true rfl) dX11_init_116 (fun a19 H hqe hnn hnsz hOn o1 hI hS => ?_)
  have hlt0 : h0 < _ := hO.lt
  have hne0 : h0 ≠ a19 := by omega
  have hO := hO.kept (o1 _ hlt0)
  have hlt_a19 : h0 < a19 := by omega
  refine lv_dup hx hb dX11_init_119 rfl ?_
  refine lv_aload_n hx hb dX11_init_120 rfl (lv_at hl 0 rfl) ?_
  refine th_get hx hb hts inT11 hown hK hO rfl 0 (by decide) (hts _ (tb_c wd_345)) rfl rfl dX11_init_121 ?_
  refine lv_aload_n hx hb dX11_init_124 rfl (lv_at hl 0 rfl) ?_
  refine th_get hx hb hts inT11 hown hK hO rfl 7 (by decide) (hts _ (tb_c wd_352)) rfl rfl dX11_init_125 ?_
  refine th_cI (As := [.ref a1, .ref a15]) (rest := [.ref a19, .ref h0]) (n := 2) ⟨hx, hb, hml, hown, hts⟩ (c_X5_init l E D G a19 H.size hnn (fun k h => hE k (by have := hS.1; omega)) a1 hq2 a15 hq16) wd_272 wd_273 wd_10 wd_274 (by decide +kernel) ⟨by rw [hR]; exact Nat.le_of_ble_eq_true rfl, by rw [hR]; exact Nat.le_of_ble_eq_true rfl⟩ hI hN hAO hK hOn hnn hnsz hS hA hAG rfl hl.1 rfl (Nat.le_of_ble_eq_true rfl) dX11_init_128 ⟨by rw [hR]; exact Nat.le_of_ble_eq_true rfl, by rw [hR]; exact Nat.le_of_ble_eq_true rfl⟩ (fun G H locs hle hq20 hAG hGne hk hI hS => ?_)
  have hlt0 : h0 < _ := hO.lt
  have hO := hO.kept (hk _ hlt0 hn0 hne0)
  have hn0 : G h0 = none := hGne _ hlt0 hn0 hne0
  have hq2 := hle _ _ hq2
  have hq4 := hle _ _ hq4
  have hq6 := hle _ _ hq6
  have hq8 := hle _ _ hq8
  have hq10 := hle _ _ hq10
  have hq12 := hle _ _ hq12
  have hq14 := hle _ _ hq14
  have hq16 := hle _ _ hq16
  have hq18 := hle _ _ hq18
  have hle0 := hle0.tr hle
  refine th_putF (ty := (.object "NineRiver$Sleuth")) hx hb hts inT11 tyX11 tyX11_ok nmX11 hown hK hO hS hA0 rfl 9 (by decide) (hts _ (tb_c wd_354)) rfl hin rfl (by decide +kernel) rfl rfl (Nat.le_of_ble_eq_true rfl) dX11_init_131 (fun H locs hO oq hS => ?_)
  have hI := th_raw hI hn0 oq
  have hO : va_at D vwCl (h0, .inr (11, [.ref a1, .ref a3, .ref a5, .ref a7, .ref a9, .ref a11, .ref a13, .ref a15, .ref a17, .ref a19, .null, .null, .int 0, .int 0, .int 0, .int 0, .int 0])) H := hO
  refine lv_aload_n hx hb dX11_init_134 rfl (lv_at hl 0 rfl) ?_
  refine th_newo (ci := 8) (fs := [.null, .null, .null, .null, .null, .null]) hx hb hts inT8 tyX8 tyX8_ok hown (hts _ (tb_c wd_295)) (hts _ (tb_c wd_296)) (hts _ (tb_c wd_11)) hK hI hS rfl (fun j hj => by rcases (show j = 0 ∨ j = 1 ∨ j = 2 ∨ j = 3 ∨ j = 4 ∨ j = 5 by omega) with rfl | rfl | rfl | rfl | rfl | rfl <;> rfl) (by rw [hR]; exact Nat.le_of_ble_eq_true rfl) (by rw [hR]; exact Nat.le_of_ble_eq_true rfl) dX11_init_135 (fun a21 H hqe hnn hnsz hOn o1 hI hS => ?_)
  have hlt0 : h0 < _ := hO.lt
  have hne0 : h0 ≠ a21 := by omega
  have hO := hO.kept (o1 _ hlt0)
  have hlt_a21 : h0 < a21 := by omega
  refine lv_dup hx hb dX11_init_138 rfl ?_
  refine lv_aload_n hx hb dX11_init_139 rfl (lv_at hl 0 rfl) ?_
  refine th_get hx hb hts inT11 hown hK hO rfl 6 (by decide) (hts _ (tb_c wd_351)) rfl rfl dX11_init_140 ?_
  refine th_cI (As := [.ref a13]) (rest := [.ref a21, .ref h0]) (n := 1) ⟨hx, hb, hml, hown, hts⟩ (c_X8_init l E D G a21 H.size hnn (fun k h => hE k (by have := hS.1; omega)) a13 hq14) wd_297 wd_298 wd_11 wd_299 (by decide +kernel) ⟨by rw [hR]; exact Nat.le_of_ble_eq_true rfl, by rw [hR]; exact Nat.le_of_ble_eq_true rfl⟩ hI hN hAO hK hOn hnn hnsz hS hA hAG rfl hl.1 rfl (Nat.le_of_ble_eq_true rfl) dX11_init_143 ⟨by rw [hR]; exact Nat.le_of_ble_eq_true rfl, by rw [hR]; exact Nat.le_of_ble_eq_true rfl⟩ (fun G H locs hle hq22 hAG hGne hk hI hS => ?_)
  have hlt0 : h0 < _ := hO.lt
  have hO := hO.kept (hk _ hlt0 hn0 hne0)
  have hn0 : G h0 = none := hGne _ hlt0 hn0 hne0
  have hq2 := hle _ _ hq2
  have hq4 := hle _ _ hq4
  have hq6 := hle _ _ hq6
  have hq8 := hle _ _ hq8
  have hq10 := hle _ _ hq10
  have hq12 := hle _ _ hq12
  have hq14 := hle _ _ hq14
  have hq16 := hle _ _ hq16
  have hq18 := hle _ _ hq18
  have hq20 := hle _ _ hq20
  have hle0 := hle0.tr hle
  refine th_putF (ty := (.object "NineRiver$Thrower")) hx hb hts inT11 tyX11 tyX11_ok nmX11 hown hK hO hS hA0 rfl 10 (by decide) (hts _ (tb_c wd_355)) rfl hin rfl (by decide +kernel) rfl rfl (Nat.le_of_ble_eq_true rfl) dX11_init_146 (fun H locs hO oq hS => ?_)
  have hI := th_raw hI hn0 oq
  have hO : va_at D vwCl (h0, .inr (11, [.ref a1, .ref a3, .ref a5, .ref a7, .ref a9, .ref a11, .ref a13, .ref a15, .ref a17, .ref a19, .ref a21, .null, .int 0, .int 0, .int 0, .int 0, .int 0])) H := hO
  refine lv_aload_n hx hb dX11_init_149 rfl (lv_at hl 0 rfl) ?_
  refine th_newo (ci := 10) (fs := [.null, .null, .null, .null, .null, .int 0]) hx hb hts inT10 tyX10 tyX10_ok hown (hts _ (tb_c wd_320)) (hts _ (tb_c wd_321)) (hts _ (tb_c wd_12)) hK hI hS rfl (fun j hj => by rcases (show j = 0 ∨ j = 1 ∨ j = 2 ∨ j = 3 ∨ j = 4 ∨ j = 5 by omega) with rfl | rfl | rfl | rfl | rfl | rfl <;> rfl) (by rw [hR]; exact Nat.le_of_ble_eq_true rfl) (by rw [hR]; exact Nat.le_of_ble_eq_true rfl) dX11_init_150 (fun a23 H hqe hnn hnsz hOn o1 hI hS => ?_)
  have hlt0 : h0 < _ := hO.lt
  have hne0 : h0 ≠ a23 := by omega
  have hO := hO.kept (o1 _ hlt0)
  have hlt_a23 : h0 < a23 := by omega
  refine lv_dup hx hb dX11_init_153 rfl ?_
  refine lv_aload_n hx hb dX11_init_154 rfl (lv_at hl 0 rfl) ?_
  refine th_get hx hb hts inT11 hown hK hO rfl 0 (by decide) (hts _ (tb_c wd_345)) rfl rfl dX11_init_155 ?_
  refine lv_aload_n hx hb dX11_init_158 rfl (lv_at hl 0 rfl) ?_
  refine th_get hx hb hts inT11 hown hK hO rfl 6 (by decide) (hts _ (tb_c wd_351)) rfl rfl dX11_init_159 ?_
  refine lv_aload_n hx hb dX11_init_162 rfl (lv_at hl 0 rfl) ?_
  refine th_get hx hb hts inT11 hown hK hO rfl 7 (by decide) (hts _ (tb_c wd_352)) rfl rfl dX11_init_163 ?_
  refine th_cI (As := [.ref a1, .ref a13, .ref a15]) (rest := [.ref a23, .ref h0]) (n := 3) ⟨hx, hb, hml, hown, hts⟩ (c_X10_init l E D G a23 H.size hnn (fun k h => hE k (by have := hS.1; omega)) a1 hq2 a13 hq14 a15 hq16) wd_322 wd_323 wd_12 wd_324 (by decide +kernel) ⟨by rw [hR]; exact Nat.le_of_ble_eq_true rfl, by rw [hR]; exact Nat.le_of_ble_eq_true rfl⟩ hI hN hAO hK hOn hnn hnsz hS hA hAG rfl hl.1 rfl (Nat.le_of_ble_eq_true rfl) dX11_init_166 ⟨by rw [hR]; exact Nat.le_of_ble_eq_true rfl, by rw [hR]; exact Nat.le_of_ble_eq_true rfl⟩ (fun G H locs hle hq24 hAG hGne hk hI hS => ?_)
  have hlt0 : h0 < _ := hO.lt
  have hO := hO.kept (hk _ hlt0 hn0 hne0)
  have hn0 : G h0 = none := hGne _ hlt0 hn0 hne0
  have hq2 := hle _ _ hq2
  have hq4 := hle _ _ hq4
  have hq6 := hle _ _ hq6
  have hq8 := hle _ _ hq8
  have hq10 := hle _ _ hq10
  have hq12 := hle _ _ hq12
  have hq14 := hle _ _ hq14
  have hq16 := hle _ _ hq16
  have hq18 := hle _ _ hq18
  have hq20 := hle _ _ hq20
  have hq22 := hle _ _ hq22
  have hle0 := hle0.tr hle
  refine th_putF (ty := (.object "NineRiver$Tuner")) hx hb hts inT11 tyX11 tyX11_ok nmX11 hown hK hO hS hA0 rfl 11 (by decide) (hts _ (tb_c wd_356)) rfl hin rfl (by decide +kernel) rfl rfl (Nat.le_of_ble_eq_true rfl) dX11_init_169 (fun H locs hO oq hS => ?_)
  have hI := th_raw hI hn0 oq
  have hO : va_at D vwCl (h0, .inr (11, [.ref a1, .ref a3, .ref a5, .ref a7, .ref a9, .ref a11, .ref a13, .ref a15, .ref a17, .ref a19, .ref a21, .ref a23, .int 0, .int 0, .int 0, .int 0, .int 0])) H := hO
  refine lv_aload_n hx hb dX11_init_172 rfl (lv_at hl 0 rfl) ?_
  refine lv_iconst (v := 0) hx hb dX11_init_173 (by decide) ?_
  refine th_put (ty := .int) hx hb hts inT11 tyX11 tyX11_ok nmX11 hown hK hO hS hA0 rfl 12 (by decide) (hts _ (tb_c wd_357)) rfl rfl (by decide +kernel) rfl rfl (Nat.le_of_ble_eq_true rfl) dX11_init_174 (fun H locs hO oq hS => ?_)
  have hI := th_raw hI hn0 oq
  have hO : va_at D vwCl (h0, .inr (11, [.ref a1, .ref a3, .ref a5, .ref a7, .ref a9, .ref a11, .ref a13, .ref a15, .ref a17, .ref a19, .ref a21, .ref a23, .int 0, .int 0, .int 0, .int 0, .int 0])) H := hO
  refine lv_aload_n hx hb dX11_init_177 rfl (lv_at hl 0 rfl) ?_
  refine lv_iconst (v := (-1)) hx hb dX11_init_178 (by decide) ?_
  refine th_put (ty := .int) hx hb hts inT11 tyX11 tyX11_ok nmX11 hown hK hO hS hA0 rfl 13 (by decide) (hts _ (tb_c wd_358)) rfl rfl (by decide +kernel) rfl rfl (Nat.le_of_ble_eq_true rfl) dX11_init_179 (fun H locs hO oq hS => ?_)
  have hI := th_raw hI hn0 oq
  have hO : va_at D vwCl (h0, .inr (11, [.ref a1, .ref a3, .ref a5, .ref a7, .ref a9, .ref a11, .ref a13, .ref a15, .ref a17, .ref a19, .ref a21, .ref a23, .int 0, .int (-1), .int 0, .int 0, .int 0])) H := hO
  refine lv_aload_n hx hb dX11_init_182 rfl (lv_at hl 0 rfl) ?_
  refine lv_iconst (v := 0) hx hb dX11_init_183 (by decide) ?_
  refine th_put (ty := .int) hx hb hts inT11 tyX11 tyX11_ok nmX11 hown hK hO hS hA0 rfl 14 (by decide) (hts _ (tb_c wd_359)) rfl rfl (by decide +kernel) rfl rfl (Nat.le_of_ble_eq_true rfl) dX11_init_184 (fun H locs hO oq hS => ?_)
  have hI := th_raw hI hn0 oq
  have hO : va_at D vwCl (h0, .inr (11, [.ref a1, .ref a3, .ref a5, .ref a7, .ref a9, .ref a11, .ref a13, .ref a15, .ref a17, .ref a19, .ref a21, .ref a23, .int 0, .int (-1), .int 0, .int 0, .int 0])) H := hO
  refine lv_aload_n hx hb dX11_init_187 rfl (lv_at hl 0 rfl) ?_
  refine lv_iconst (v := 0) hx hb dX11_init_188 (by decide) ?_
  refine th_put (ty := .int) hx hb hts inT11 tyX11 tyX11_ok nmX11 hown hK hO hS hA0 rfl 15 (by decide) (hts _ (tb_c wd_360)) rfl rfl (by decide +kernel) rfl rfl (Nat.le_of_ble_eq_true rfl) dX11_init_189 (fun H locs hO oq hS => ?_)
  have hI := th_raw hI hn0 oq
  have hO : va_at D vwCl (h0, .inr (11, [.ref a1, .ref a3, .ref a5, .ref a7, .ref a9, .ref a11, .ref a13, .ref a15, .ref a17, .ref a19, .ref a21, .ref a23, .int 0, .int (-1), .int 0, .int 0, .int 0])) H := hO
  refine lv_aload_n hx hb dX11_init_192 rfl (lv_at hl 0 rfl) ?_
  refine lv_iconst (v := 0) hx hb dX11_init_193 (by decide) ?_
  refine th_put (ty := .boolean) hx hb hts inT11 tyX11 tyX11_ok nmX11 hown hK hO hS hA0 rfl 16 (by decide) (hts _ (tb_c wd_361)) rfl rfl (by decide +kernel) (by decide) rfl (Nat.le_of_ble_eq_true rfl) dX11_init_194 (fun H locs hO oq hS => ?_)
  have hI := th_raw hI hn0 oq
  have hO : va_at D vwCl (h0, .inr (11, [.ref a1, .ref a3, .ref a5, .ref a7, .ref a9, .ref a11, .ref a13, .ref a15, .ref a17, .ref a19, .ref a21, .ref a23, .int 0, .int (-1), .int 0, .int 0, .int 0])) H := hO
  have hO : va_at D vwCl (h0, .inr (11, [.ref a1, .ref a3, .ref a5, .ref a7, .ref a9, .ref a11, .ref a13, .ref a15, .ref a17, .ref a19, .ref a21, .ref a23, .int 0, .int (-1), .int 0, .int 0, .int 0])) H := hO
  have hI := th_type (k := (15, a3)) hI hn0 hO (ok_15 (gx_le hn0 _ _ hq2) (gx_le hn0 _ _ hq4) (gx_le hn0 _ _ hq6) (gx_le hn0 _ _ hq8) (gx_le hn0 _ _ hq10) (gx_le hn0 _ _ hq12) (gx_le hn0 _ _ hq14) (gx_le hn0 _ _ hq16) (gx_le hn0 _ _ hq18) (gx_le hn0 _ _ hq20) (gx_le hn0 _ _ hq22) (gx_le hn0 _ _ hq24) ⟨by decide, by decide⟩ (Or.inl (hE _ (Or.inl ⟨by omega, by omega⟩))))
  refine W.widen (k := 58) (n := 13966) (Nat.le_of_ble_eq_true rfl) (Nat.le_of_ble_eq_true rfl) ?_
  rw [← hAe] at hS ⊢
  exact W.vret hx hb hr (fun t ht hW => ⟨⟨gx G h0 (15, a3), rfl, ⟨hle0.tr (gx_le hn0), ⟨_, gx_a⟩, fun r k hr => mA_new (hAe ▸ hAG) hle0 hr⟩, by rw [ht]; exact hI, hN.warm hW, va_K.moved hW.alike hK⟩, hS.F ht⟩) hS.2.2 dX11_init_197
