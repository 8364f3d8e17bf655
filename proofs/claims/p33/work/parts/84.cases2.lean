set_option maxHeartbeats 4000000 in
set_option maxRecDepth 100000 in
theorem law_c26 {p : Program} {e : Env} {s : State} {m : MethodId} {below : List Frame} {meth : Method} {c : Code} {l : Launch} {b L : Nat} {xs : Nat → Int32} (C0 : lw_At p s m meth c b L xs) {E : Nat → Nat} {D : va_G} {adK adV : Nat → Nat} (X0 : LCx E D adK adV s) {xa ma i : Nat} (hi : i + 7 ≤ L) (hL : L ≤ 3584) {Gc Gm : th_G} {nn : Nat} {H : Heap} {locs : List Loc} (hW : LWs E D s xa ma Gc Gm nn H locs) (hT : TI E Gc xa nn) (hU : UQ Gm 1 ∧ UQ Gm 2 ∧ UQ Gm 11) {cells slots : Nat} (hc1 : cells + 18 ≤ 600000) (hc2 : slots + 441 ≤ 7302250) {ls : Array Slot} (hl : lv_has ls 4 [(3, .int (nI i)), (2, .ref ma), (1, .ref xa), (0, .ref b)]) (kk : ∀ (E : Nat → Nat) (Gc : th_G) (nn : Nat) (H : Heap) (locs : List Loc), LCx E D adK adV s → LWs E D s xa ma Gc Gm nn H locs → TI E Gc xa nn → W p l e room_1 s m #[Value.ref b] below meth c H locs (cells + 18) (slots + 441) (lw_Z below #[Value.ref b] s) (F0 m 2004 ls [])) : W p l e room_1 s m #[Value.ref b] below meth c H locs cells slots (lw_Z below #[Value.ref b] s) (F0 m 1166 ls []) := by
  obtain ⟨hx, hb, hr, hml, hown, hts0, hX, hbl, hlocks, hgv⟩ := id C0
  obtain ⟨hN, hK, hWS, hCL, hAO⟩ := id X0
  have hbA : ¬ LWa s b := Nat.not_le.mpr hbl
  have hts := lw_tb (w := Cond.initialized RX12) wd_13 hts0
  have hR1 : room_1.cells = 600000 := rfl
  have hR2 : room_1.slots = 7302250 := rfl
  have ti : (nI i).toInt = (i : Int) := nI_toInt (by omega)
  refine lv_aload_n hx hb dLaw_1166 rfl (lv_at hl 2 rfl) ?_
  refine lv_aload_n hx hb dLaw_1167 rfl (lv_at hl 3 rfl) ?_
  refine lv_iload_n hx hb dLaw_1168 rfl (lv_at hl 0 rfl) ?_
  refine lv_iconst (v := 1) hx hb dLaw_1169 (by decide) ?_
  refine lv_iadd hx hb dLaw_1170 ?_
  refine lv_topi (fun z167 ez167 => ?_)
  have tz167 := iv_add (Y := 1) ti (by decide) ez167 (by omega) (by omega)
  refine va_sld hx hb hX hbl hbA hW.2.2.2.2.2.2.2 (iv_in (X := (i : Int) + 1) (by omega) (by omega) (by omega)) dLaw_1171 ?_
  rw [show z167.toNatClampNeg = i + 1 from by show z167.toInt.toNat = _; omega]
  refine lv_aload_n hx hb dLaw_1172 rfl (lv_at hl 3 rfl) ?_
  refine lv_iload_n hx hb dLaw_1173 rfl (lv_at hl 0 rfl) ?_
  refine lv_iconst (v := 2) hx hb dLaw_1174 (by decide) ?_
  refine lv_iadd hx hb dLaw_1175 ?_
  refine lv_topi (fun z168 ez168 => ?_)
  have tz168 := iv_add (Y := 2) ti (by decide) ez168 (by omega) (by omega)
  refine va_sld hx hb hX hbl hbA hW.2.2.2.2.2.2.2 (iv_in (X := (i : Int) + 2) (by omega) (by omega) (by omega)) dLaw_1176 ?_
  rw [show z168.toNatClampNeg = i + 2 from by show z168.toInt.toNat = _; omega]
  refine lv_aload_n hx hb dLaw_1177 rfl (lv_at hl 3 rfl) ?_
  refine lv_iload_n hx hb dLaw_1178 rfl (lv_at hl 0 rfl) ?_
  refine lv_iconst (v := 3) hx hb dLaw_1179 (by decide) ?_
  refine lv_iadd hx hb dLaw_1180 ?_
  refine lv_topi (fun z169 ez169 => ?_)
  have tz169 := iv_add (Y := 3) ti (by decide) ez169 (by omega) (by omega)
  refine va_sld hx hb hX hbl hbA hW.2.2.2.2.2.2.2 (iv_in (X := (i : Int) + 3) (by omega) (by omega) (by omega)) dLaw_1181 ?_
  rw [show z169.toNatClampNeg = i + 3 from by show z169.toInt.toNat = _; omega]
  refine lc_i (As := [.int (xs (i + 1)), .int (xs (i + 2)), .int (xs (i + 3))]) (rest := []) (n := 3) (d := 8) ⟨hx, hb, hml, hown, hts⟩ (c_X11_dye l E D Gc xa nn hW.2.1 (xs (i + 1)) (xs (i + 2)) (xs (i + 3))) wd_912 wd_913 wd_914 wd_1 wd_915 (by decide +kernel) ⟨Nat.le_of_ble_eq_true rfl, Nat.le_of_ble_eq_true rfl⟩ hW hN hK rfl hl.1 rfl (Nat.le_of_ble_eq_true rfl) dLaw_1182 ⟨by rw [hR1]; omega, by rw [hR2]; omega⟩ (fun r170 H locs hr170 hW => ?_)
  refine lv_pop hx hb dLaw_1185 rfl ?_
  refine lv_aload_n hx hb dLaw_1186 rfl (lv_at hl 1 rfl) ?_
  refine lv_aload_n hx hb dLaw_1187 rfl (lv_at hl 3 rfl) ?_
  refine lv_iload_n hx hb dLaw_1188 rfl (lv_at hl 0 rfl) ?_
  refine lv_iconst (v := 1) hx hb dLaw_1189 (by decide) ?_
  refine lv_iadd hx hb dLaw_1190 ?_
  refine lv_topi (fun z171 ez171 => ?_)
  have tz171 := iv_add (Y := 1) ti (by decide) ez171 (by omega) (by omega)
  refine va_sld hx hb hX hbl hbA hW.2.2.2.2.2.2.2 (iv_in (X := (i : Int) + 1) (by omega) (by omega) (by omega)) dLaw_1191 ?_
  rw [show z171.toNatClampNeg = i + 1 from by show z171.toInt.toNat = _; omega]
  refine lv_aload_n hx hb dLaw_1192 rfl (lv_at hl 3 rfl) ?_
  refine lv_iload_n hx hb dLaw_1193 rfl (lv_at hl 0 rfl) ?_
  refine lv_iconst (v := 2) hx hb dLaw_1194 (by decide) ?_
  refine lv_iadd hx hb dLaw_1195 ?_
  refine lv_topi (fun z172 ez172 => ?_)
  have tz172 := iv_add (Y := 2) ti (by decide) ez172 (by omega) (by omega)
  refine va_sld hx hb hX hbl hbA hW.2.2.2.2.2.2.2 (iv_in (X := (i : Int) + 2) (by omega) (by omega) (by omega)) dLaw_1196 ?_
  rw [show z172.toNatClampNeg = i + 2 from by show z172.toInt.toNat = _; omega]
  refine lv_aload_n hx hb dLaw_1197 rfl (lv_at hl 3 rfl) ?_
  refine lv_iload_n hx hb dLaw_1198 rfl (lv_at hl 0 rfl) ?_
  refine lv_iconst (v := 3) hx hb dLaw_1199 (by decide) ?_
  refine lv_iadd hx hb dLaw_1200 ?_
  refine lv_topi (fun z173 ez173 => ?_)
  have tz173 := iv_add (Y := 3) ti (by decide) ez173 (by omega) (by omega)
  refine va_sld hx hb hX hbl hbA hW.2.2.2.2.2.2.2 (iv_in (X := (i : Int) + 3) (by omega) (by omega) (by omega)) dLaw_1201 ?_
  rw [show z173.toNatClampNeg = i + 3 from by show z173.toInt.toNat = _; omega]
  refine lm_i (post := fun _ => True) (As := [.int (xs (i + 1)), .int (xs (i + 2)), .int (xs (i + 3))]) (rest := []) (n := 3) (d := 69) ⟨hx, hb, hml, hown, hts⟩ (c_X12_dye l E D Gm ma hW.2.2.2.1 (xs (i + 1)) (xs (i + 2)) (xs (i + 3))) wd_1713 wd_1714 wd_1715 wd_13 wd_1716 (by decide +kernel) ⟨Nat.le_of_ble_eq_true rfl, Nat.le_of_ble_eq_true rfl⟩ hW hN hK rfl hl.1 rfl (Nat.le_of_ble_eq_true rfl) dLaw_1202 ⟨by rw [hR1]; omega, by rw [hR2]; omega⟩ (fun r174 H locs hr174 hW => ?_)
  refine lv_pop hx hb dLaw_1205 rfl ?_
  refine lv_goto (tgt := 2004) hx hb dLaw_1206 (by decide) ?_
  exact W.widen (k := cells + 18) (n := slots + 441) (by omega) (by omega) (kk _ _ _ _ _ X0 hW hT)
set_option maxHeartbeats 4000000 in
set_option maxRecDepth 100000 in
theorem law_c27 {p : Program} {e : Env} {s : State} {m : MethodId} {below : List Frame} {meth : Method} {c : Code} {l : Launch} {b L : Nat} {xs : Nat → Int32} (C0 : lw_At p s m meth c b L xs) {E : Nat → Nat} {D : va_G} {adK adV : Nat → Nat} (X0 : LCx E D adK adV s) {xa ma i : Nat} (hi : i + 7 ≤ L) (hL : L ≤ 3584) {Gc Gm : th_G} {nn : Nat} {H : Heap} {locs : List Loc} (hW : LWs E D s xa ma Gc Gm nn H locs) (hT : TI E Gc xa nn) (hU : UQ Gm 1 ∧ UQ Gm 2 ∧ UQ Gm 11) {cells slots : Nat} (hc1 : cells + 18 ≤ 600000) (hc2 : slots + 441 ≤ 7302250) {ls : Array Slot} (hl : lv_has ls 4 [(3, .int (nI i)), (2, .ref ma), (1, .ref xa), (0, .ref b)]) (kk : ∀ (E : Nat → Nat) (Gc : th_G) (nn : Nat) (H : Heap) (locs : List Loc), LCx E D adK adV s → LWs E D s xa ma Gc Gm nn H locs → TI E Gc xa nn → W p l e room_1 s m #[Value.ref b] below meth c H locs (cells + 18) (slots + 441) (lw_Z below #[Value.ref b] s) (F0 m 2004 ls [])) : W p l e room_1 s m #[Value.ref b] below meth c H locs cells slots (lw_Z below #[Value.ref b] s) (F0 m 1209 ls []) := by
  obtain ⟨hx, hb, hr, hml, hown, hts0, hX, hbl, hlocks, hgv⟩ := id C0
  obtain ⟨hN, hK, hWS, hCL, hAO⟩ := id X0
  have hbA : ¬ LWa s b := Nat.not_le.mpr hbl
  have hts := lw_tb (w := Cond.initialized RX12) wd_13 hts0
  have hR1 : room_1.cells = 600000 := rfl
  have hR2 : room_1.slots = 7302250 := rfl
  have ti : (nI i).toInt = (i : Int) := nI_toInt (by omega)
  refine lv_aload_n hx hb dLaw_1209 rfl (lv_at hl 2 rfl) ?_
  refine lv_aload_n hx hb dLaw_1210 rfl (lv_at hl 3 rfl) ?_
  refine lv_iload_n hx hb dLaw_1211 rfl (lv_at hl 0 rfl) ?_
  refine lv_iconst (v := 1) hx hb dLaw_1212 (by decide) ?_
  refine lv_iadd hx hb dLaw_1213 ?_
  refine lv_topi (fun z175 ez175 => ?_)
  have tz175 := iv_add (Y := 1) ti (by decide) ez175 (by omega) (by omega)
  refine va_sld hx hb hX hbl hbA hW.2.2.2.2.2.2.2 (iv_in (X := (i : Int) + 1) (by omega) (by omega) (by omega)) dLaw_1214 ?_
  rw [show z175.toNatClampNeg = i + 1 from by show z175.toInt.toNat = _; omega]
  refine lv_aload_n hx hb dLaw_1215 rfl (lv_at hl 3 rfl) ?_
  refine lv_iload_n hx hb dLaw_1216 rfl (lv_at hl 0 rfl) ?_
  refine lv_iconst (v := 2) hx hb dLaw_1217 (by decide) ?_
  refine lv_iadd hx hb dLaw_1218 ?_
  refine lv_topi (fun z176 ez176 => ?_)
  have tz176 := iv_add (Y := 2) ti (by decide) ez176 (by omega) (by omega)
  refine va_sld hx hb hX hbl hbA hW.2.2.2.2.2.2.2 (iv_in (X := (i : Int) + 2) (by omega) (by omega) (by omega)) dLaw_1219 ?_
  rw [show z176.toNatClampNeg = i + 2 from by show z176.toInt.toNat = _; omega]
  refine lv_aload_n hx hb dLaw_1220 rfl (lv_at hl 3 rfl) ?_
  refine lv_iload_n hx hb dLaw_1221 rfl (lv_at hl 0 rfl) ?_
  refine lv_iconst (v := 3) hx hb dLaw_1222 (by decide) ?_
  refine lv_iadd hx hb dLaw_1223 ?_
  refine lv_topi (fun z177 ez177 => ?_)
  have tz177 := iv_add (Y := 3) ti (by decide) ez177 (by omega) (by omega)
  refine va_sld hx hb hX hbl hbA hW.2.2.2.2.2.2.2 (iv_in (X := (i : Int) + 3) (by omega) (by omega) (by omega)) dLaw_1224 ?_
  rw [show z177.toNatClampNeg = i + 3 from by show z177.toInt.toNat = _; omega]
  refine lc_i (As := [.int (xs (i + 1)), .int (xs (i + 2)), .int (xs (i + 3))]) (rest := []) (n := 3) (d := 8) ⟨hx, hb, hml, hown, hts⟩ (c_X11_comes l E D Gc xa nn hW.2.1 (xs (i + 1)) (xs (i + 2)) (xs (i + 3))) wd_927 wd_928 wd_929 wd_1 wd_930 (by decide +kernel) ⟨Nat.le_of_ble_eq_true rfl, Nat.le_of_ble_eq_true rfl⟩ hW hN hK rfl hl.1 rfl (Nat.le_of_ble_eq_true rfl) dLaw_1225 ⟨by rw [hR1]; omega, by rw [hR2]; omega⟩ (fun r178 H locs hr178 hW => ?_)
  refine lv_pop hx hb dLaw_1228 rfl ?_
  refine lv_aload_n hx hb dLaw_1229 rfl (lv_at hl 1 rfl) ?_
  refine lv_aload_n hx hb dLaw_1230 rfl (lv_at hl 3 rfl) ?_
  refine lv_iload_n hx hb dLaw_1231 rfl (lv_at hl 0 rfl) ?_
  refine lv_iconst (v := 1) hx hb dLaw_1232 (by decide) ?_
  refine lv_iadd hx hb dLaw_1233 ?_
  refine lv_topi (fun z179 ez179 => ?_)
  have tz179 := iv_add (Y := 1) ti (by decide) ez179 (by omega) (by omega)
  refine va_sld hx hb hX hbl hbA hW.2.2.2.2.2.2.2 (iv_in (X := (i : Int) + 1) (by omega) (by omega) (by omega)) dLaw_1234 ?_
  rw [show z179.toNatClampNeg = i + 1 from by show z179.toInt.toNat = _; omega]
  refine lv_aload_n hx hb dLaw_1235 rfl (lv_at hl 3 rfl) ?_
  refine lv_iload_n hx hb dLaw_1236 rfl (lv_at hl 0 rfl) ?_
  refine lv_iconst (v := 2) hx hb dLaw_1237 (by decide) ?_
  refine lv_iadd hx hb dLaw_1238 ?_
  refine lv_topi (fun z180 ez180 => ?_)
  have tz180 := iv_add (Y := 2) ti (by decide) ez180 (by omega) (by omega)
  refine va_sld hx hb hX hbl hbA hW.2.2.2.2.2.2.2 (iv_in (X := (i : Int) + 2) (by omega) (by omega) (by omega)) dLaw_1239 ?_
  rw [show z180.toNatClampNeg = i + 2 from by show z180.toInt.toNat = _; omega]
  refine lv_aload_n hx hb dLaw_1240 rfl (lv_at hl 3 rfl) ?_
  refine lv_iload_n hx hb dLaw_1241 rfl (lv_at hl 0 rfl) ?_
  refine lv_iconst (v := 3) hx hb dLaw_1242 (by decide) ?_
  refine lv_iadd hx hb dLaw_1243 ?_
  refine lv_topi (fun z181 ez181 => ?_)
  have tz181 := iv_add (Y := 3) ti (by decide) ez181 (by omega) (by omega)
  refine va_sld hx hb hX hbl hbA hW.2.2.2.2.2.2.2 (iv_in (X := (i : Int) + 3) (by omega) (by omega) (by omega)) dLaw_1244 ?_
  rw [show z181.toNatClampNeg = i + 3 from by show z181.toInt.toNat = _; omega]
  refine lm_i (post := fun _ => True) (As := [.int (xs (i + 1)), .int (xs (i + 2)), .int (xs (i + 3))]) (rest := []) (n := 3) (d := 69) ⟨hx, hb, hml, hown, hts⟩ (c_X12_comes l E D Gm ma hW.2.2.2.1 (xs (i + 1)) (xs (i + 2)) (xs (i + 3))) wd_1721 wd_1722 wd_1723 wd_13 wd_1724 (by decide +kernel) ⟨Nat.le_of_ble_eq_true rfl, Nat.le_of_ble_eq_true rfl⟩ hW hN hK rfl hl.1 rfl (Nat.le_of_ble_eq_true rfl) dLaw_1245 ⟨by rw [hR1]; omega, by rw [hR2]; omega⟩ (fun r182 H locs hr182 hW => ?_)
  refine lv_pop hx hb dLaw_1248 rfl ?_
  refine lv_goto (tgt := 2004) hx hb dLaw_1249 (by decide) ?_
  exact W.widen (k := cells + 18) (n := slots + 441) (by omega) (by omega) (kk _ _ _ _ _ X0 hW hT)
set_option maxHeartbeats 4000000 in
set_option maxRecDepth 100000 in
theorem law_c28 {p : Program} {e : Env} {s : State} {m : MethodId} {below : List Frame} {meth : Method} {c : Code} {l : Launch} {b L : Nat} {xs : Nat → Int32} (C0 : lw_At p s m meth c b L xs) {E : Nat → Nat} {D : va_G} {adK adV : Nat → Nat} (X0 : LCx E D adK adV s) {xa ma i : Nat} (hi : i + 7 ≤ L) (hL : L ≤ 3584) {Gc Gm : th_G} {nn : Nat} {H : Heap} {locs : List Loc} (hW : LWs E D s xa ma Gc Gm nn H locs) (hT : TI E Gc xa nn) (hU : UQ Gm 1 ∧ UQ Gm 2 ∧ UQ Gm 11) {cells slots : Nat} (hc1 : cells + 18 ≤ 600000) (hc2 : slots + 441 ≤ 7302250) {ls : Array Slot} (hl : lv_has ls 4 [(3, .int (nI i)), (2, .ref ma), (1, .ref xa), (0, .ref b)]) (kk : ∀ (E : Nat → Nat) (Gc : th_G) (nn : Nat) (H : Heap) (locs : List Loc), LCx E D adK adV s → LWs E D s xa ma Gc Gm nn H locs → TI E Gc xa nn → W p l e room_1 s m #[Value.ref b] below meth c H locs (cells + 18) (slots + 441) (lw_Z below #[Value.ref b] s) (F0 m 2004 ls [])) : W p l e room_1 s m #[Value.ref b] below meth c H locs cells slots (lw_Z below #[Value.ref b] s) (F0 m 1252 ls []) := by
  obtain ⟨hx, hb, hr, hml, hown, hts0, hX, hbl, hlocks, hgv⟩ := id C0
  obtain ⟨hN, hK, hWS, hCL, hAO⟩ := id X0
  have hbA : ¬ LWa s b := Nat.not_le.mpr hbl
  have hts := lw_tb (w := Cond.initialized RX12) wd_13 hts0
  have hR1 : room_1.cells = 600000 := rfl
  have hR2 : room_1.slots = 7302250 := rfl
  have ti : (nI i).toInt = (i : Int) := nI_toInt (by omega)
  refine lv_aload_n hx hb dLaw_1252 rfl (lv_at hl 2 rfl) ?_
  refine lv_aload_n hx hb dLaw_1253 rfl (lv_at hl 3 rfl) ?_
  refine lv_iload_n hx hb dLaw_1254 rfl (lv_at hl 0 rfl) ?_
  refine lv_iconst (v := 1) hx hb dLaw_1255 (by decide) ?_
  refine lv_iadd hx hb dLaw_1256 ?_
  refine lv_topi (fun z183 ez183 => ?_)
  have tz183 := iv_add (Y := 1) ti (by decide) ez183 (by omega) (by omega)
  refine va_sld hx hb hX hbl hbA hW.2.2.2.2.2.2.2 (iv_in (X := (i : Int) + 1) (by omega) (by omega) (by omega)) dLaw_1257 ?_
  rw [show z183.toNatClampNeg = i + 1 from by show z183.toInt.toNat = _; omega]
  refine lv_aload_n hx hb dLaw_1258 rfl (lv_at hl 3 rfl) ?_
  refine lv_iload_n hx hb dLaw_1259 rfl (lv_at hl 0 rfl) ?_
  refine lv_iconst (v := 2) hx hb dLaw_1260 (by decide) ?_
  refine lv_iadd hx hb dLaw_1261 ?_
  refine lv_topi (fun z184 ez184 => ?_)
  have tz184 := iv_add (Y := 2) ti (by decide) ez184 (by omega) (by omega)
  refine va_sld hx hb hX hbl hbA hW.2.2.2.2.2.2.2 (iv_in (X := (i : Int) + 2) (by omega) (by omega) (by omega)) dLaw_1262 ?_
  rw [show z184.toNatClampNeg = i + 2 from by show z184.toInt.toNat = _; omega]
  refine lv_aload_n hx hb dLaw_1263 rfl (lv_at hl 3 rfl) ?_
  refine lv_iload_n hx hb dLaw_1264 rfl (lv_at hl 0 rfl) ?_
  refine lv_iconst (v := 3) hx hb dLaw_1265 (by decide) ?_
  refine lv_iadd hx hb dLaw_1266 ?_
  refine lv_topi (fun z185 ez185 => ?_)
  have tz185 := iv_add (Y := 3) ti (by decide) ez185 (by omega) (by omega)
  refine va_sld hx hb hX hbl hbA hW.2.2.2.2.2.2.2 (iv_in (X := (i : Int) + 3) (by omega) (by omega) (by omega)) dLaw_1267 ?_
  rw [show z185.toNatClampNeg = i + 3 from by show z185.toInt.toNat = _; omega]
  refine lc_i (As := [.int (xs (i + 1)), .int (xs (i + 2)), .int (xs (i + 3))]) (rest := []) (n := 3) (d := 8) ⟨hx, hb, hml, hown, hts⟩ (c_X11_most l E D Gc xa nn hW.2.1 (xs (i + 1)) (xs (i + 2)) (xs (i + 3))) wd_937 wd_938 wd_939 wd_1 wd_940 (by decide +kernel) ⟨Nat.le_of_ble_eq_true rfl, Nat.le_of_ble_eq_true rfl⟩ hW hN hK rfl hl.1 rfl (Nat.le_of_ble_eq_true rfl) dLaw_1268 ⟨by rw [hR1]; omega, by rw [hR2]; omega⟩ (fun r186 H locs hr186 hW => ?_)
  refine lv_pop hx hb dLaw_1271 rfl ?_
  refine lv_aload_n hx hb dLaw_1272 rfl (lv_at hl 1 rfl) ?_
  refine lv_aload_n hx hb dLaw_1273 rfl (lv_at hl 3 rfl) ?_
  refine lv_iload_n hx hb dLaw_1274 rfl (lv_at hl 0 rfl) ?_
  refine lv_iconst (v := 1) hx hb dLaw_1275 (by decide) ?_
  refine lv_iadd hx hb dLaw_1276 ?_
  refine lv_topi (fun z187 ez187 => ?_)
  have tz187 := iv_add (Y := 1) ti (by decide) ez187 (by omega) (by omega)
  refine va_sld hx hb hX hbl hbA hW.2.2.2.2.2.2.2 (iv_in (X := (i : Int) + 1) (by omega) (by omega) (by omega)) dLaw_1277 ?_
  rw [show z187.toNatClampNeg = i + 1 from by show z187.toInt.toNat = _; omega]
  refine lv_aload_n hx hb dLaw_1278 rfl (lv_at hl 3 rfl) ?_
  refine lv_iload_n hx hb dLaw_1279 rfl (lv_at hl 0 rfl) ?_
  refine lv_iconst (v := 2) hx hb dLaw_1280 (by decide) ?_
  refine lv_iadd hx hb dLaw_1281 ?_
  refine lv_topi (fun z188 ez188 => ?_)
  have tz188 := iv_add (Y := 2) ti (by decide) ez188 (by omega) (by omega)
  refine va_sld hx hb hX hbl hbA hW.2.2.2.2.2.2.2 (iv_in (X := (i : Int) + 2) (by omega) (by omega) (by omega)) dLaw_1282 ?_
  rw [show z188.toNatClampNeg = i + 2 from by show z188.toInt.toNat = _; omega]
  refine lv_aload_n hx hb dLaw_1283 rfl (lv_at hl 3 rfl) ?_
  refine lv_iload_n hx hb dLaw_1284 rfl (lv_at hl 0 rfl) ?_
  refine lv_iconst (v := 3) hx hb dLaw_1285 (by decide) ?_
  refine lv_iadd hx hb dLaw_1286 ?_
  refine lv_topi (fun z189 ez189 => ?_)
  have tz189 := iv_add (Y := 3) ti (by decide) ez189 (by omega) (by omega)
  refine va_sld hx hb hX hbl hbA hW.2.2.2.2.2.2.2 (iv_in (X := (i : Int) + 3) (by omega) (by omega) (by omega)) dLaw_1287 ?_
  rw [show z189.toNatClampNeg = i + 3 from by show z189.toInt.toNat = _; omega]
  refine lm_i (post := fun _ => True) (As := [.int (xs (i + 1)), .int (xs (i + 2)), .int (xs (i + 3))]) (rest := []) (n := 3) (d := 69) ⟨hx, hb, hml, hown, hts⟩ (c_X12_most l E D Gm ma hW.2.2.2.1 (xs (i + 1)) (xs (i + 2)) (xs (i + 3))) wd_1725 wd_1726 wd_1727 wd_13 wd_1728 (by decide +kernel) ⟨Nat.le_of_ble_eq_true rfl, Nat.le_of_ble_eq_true rfl⟩ hW hN hK rfl hl.1 rfl (Nat.le_of_ble_eq_true rfl) dLaw_1288 ⟨by rw [hR1]; omega, by rw [hR2]; omega⟩ (fun r190 H locs hr190 hW => ?_)
  refine lv_pop hx hb dLaw_1291 rfl ?_
  refine lv_goto (tgt := 2004) hx hb dLaw_1292 (by decide) ?_
  exact W.widen (k := cells + 18) (n := slots + 441) (by omega) (by omega) (kk _ _ _ _ _ X0 hW hT)
set_option maxHeartbeats 4000000 in
set_option maxRecDepth 100000 in
theorem law_c29 {p : Program} {e : Env} {s : State} {m : MethodId} {below : List Frame} {meth : Method} {c : Code} {l : Launch} {b L : Nat} {xs : Nat → Int32} (C0 : lw_At p s m meth c b L xs) {E : Nat → Nat} {D : va_G} {adK adV : Nat → Nat} (X0 : LCx E D adK adV s) {xa ma i : Nat} (hi : i + 7 ≤ L) (hL : L ≤ 3584) {Gc Gm : th_G} {nn : Nat} {H : Heap} {locs : List Loc} (hW : LWs E D s xa ma Gc Gm nn H locs) (hT : TI E Gc xa nn) (hU : UQ Gm 1 ∧ UQ Gm 2 ∧ UQ Gm 11) {cells slots : Nat} (hc1 : cells + 18 ≤ 600000) (hc2 : slots + 441 ≤ 7302250) {ls : Array Slot} (hl : lv_has ls 4 [(3, .int (nI i)), (2, .ref ma), (1, .ref xa), (0, .ref b)]) (kk : ∀ (E : Nat → Nat) (Gc : th_G) (nn : Nat) (H : Heap) (locs : List Loc), LCx E D adK adV s → LWs E D s xa ma Gc Gm nn H locs → TI E Gc xa nn → W p l e room_1 s m #[Value.ref b] below meth c H locs (cells + 18) (slots + 441) (lw_Z below #[Value.ref b] s) (F0 m 2004 ls [])) : W p l e room_1 s m #[Value.ref b] below meth c H locs cells slots (lw_Z below #[Value.ref b] s) (F0 m 1295 ls []) := by
  obtain ⟨hx, hb, hr, hml, hown, hts0, hX, hbl, hlocks, hgv⟩ := id C0
  obtain ⟨hN, hK, hWS, hCL, hAO⟩ := id X0
  have hbA : ¬ LWa s b := Nat.not_le.mpr hbl
  have hts := lw_tb (w := Cond.initialized RX12) wd_13 hts0
  have hR1 : room_1.cells = 600000 := rfl
  have hR2 : room_1.slots = 7302250 := rfl
  have ti : (nI i).toInt = (i : Int) := nI_toInt (by omega)
  refine lv_aload_n hx hb dLaw_1295 rfl (lv_at hl 2 rfl) ?_
  refine lv_aload_n hx hb dLaw_1296 rfl (lv_at hl 3 rfl) ?_
  refine lv_iload_n hx hb dLaw_1297 rfl (lv_at hl 0 rfl) ?_
  refine lv_iconst (v := 1) hx hb dLaw_1298 (by decide) ?_
  refine lv_iadd hx hb dLaw_1299 ?_
  refine lv_topi (fun z191 ez191 => ?_)
  have tz191 := iv_add (Y := 1) ti (by decide) ez191 (by omega) (by omega)
  refine va_sld hx hb hX hbl hbA hW.2.2.2.2.2.2.2 (iv_in (X := (i : Int) + 1) (by omega) (by omega) (by omega)) dLaw_1300 ?_
  rw [show z191.toNatClampNeg = i + 1 from by show z191.toInt.toNat = _; omega]
  refine lv_aload_n hx hb dLaw_1301 rfl (lv_at hl 3 rfl) ?_
  refine lv_iload_n hx hb dLaw_1302 rfl (lv_at hl 0 rfl) ?_
  refine lv_iconst (v := 2) hx hb dLaw_1303 (by decide) ?_
  refine lv_iadd hx hb dLaw_1304 ?_
  refine lv_topi (fun z192 ez192 => ?_)
  have tz192 := iv_add (Y := 2) ti (by decide) ez192 (by omega) (by omega)
  refine va_sld hx hb hX hbl hbA hW.2.2.2.2.2.2.2 (iv_in (X := (i : Int) + 2) (by omega) (by omega) (by omega)) dLaw_1305 ?_
  rw [show z192.toNatClampNeg = i + 2 from by show z192.toInt.toNat = _; omega]
  refine lv_aload_n hx hb dLaw_1306 rfl (lv_at hl 3 rfl) ?_
  refine lv_iload_n hx hb dLaw_1307 rfl (lv_at hl 0 rfl) ?_
  refine lv_iconst (v := 3) hx hb dLaw_1308 (by decide) ?_
  refine lv_iadd hx hb dLaw_1309 ?_
  refine lv_topi (fun z193 ez193 => ?_)
  have tz193 := iv_add (Y := 3) ti (by decide) ez193 (by omega) (by omega)
  refine va_sld hx hb hX hbl hbA hW.2.2.2.2.2.2.2 (iv_in (X := (i : Int) + 3) (by omega) (by omega) (by omega)) dLaw_1310 ?_
  rw [show z193.toNatClampNeg = i + 3 from by show z193.toInt.toNat = _; omega]
  refine lv_aload_n hx hb dLaw_1311 rfl (lv_at hl 3 rfl) ?_
  refine lv_iload_n hx hb dLaw_1312 rfl (lv_at hl 0 rfl) ?_
  refine lv_iconst (v := 4) hx hb dLaw_1313 (by decide) ?_
  refine lv_iadd hx hb dLaw_1314 ?_
  refine lv_topi (fun z194 ez194 => ?_)
  have tz194 := iv_add (Y := 4) ti (by decide) ez194 (by omega) (by omega)
  refine va_sld hx hb hX hbl hbA hW.2.2.2.2.2.2.2 (iv_in (X := (i : Int) + 4) (by omega) (by omega) (by omega)) dLaw_1315 ?_
  rw [show z194.toNatClampNeg = i + 4 from by show z194.toInt.toNat = _; omega]
  refine lv_aload_n hx hb dLaw_1316 rfl (lv_at hl 3 rfl) ?_
  refine lv_iload_n hx hb dLaw_1317 rfl (lv_at hl 0 rfl) ?_
  refine lv_iconst (v := 5) hx hb dLaw_1318 (by decide) ?_
  refine lv_iadd hx hb dLaw_1319 ?_
  refine lv_topi (fun z195 ez195 => ?_)
  have tz195 := iv_add (Y := 5) ti (by decide) ez195 (by omega) (by omega)
  refine va_sld hx hb hX hbl hbA hW.2.2.2.2.2.2.2 (iv_in (X := (i : Int) + 5) (by omega) (by omega) (by omega)) dLaw_1320 ?_
  rw [show z195.toNatClampNeg = i + 5 from by show z195.toInt.toNat = _; omega]
  refine lc_i (As := [.int (xs (i + 1)), .int (xs (i + 2)), .int (xs (i + 3)), .int (xs (i + 4)), .int (xs (i + 5))]) (rest := []) (n := 5) (d := 7) ⟨hx, hb, hml, hown, hts⟩ (c_X11_least l E D Gc xa nn hW.2.1 (xs (i + 1)) (xs (i + 2)) (xs (i + 3)) (xs (i + 4)) (xs (i + 5))) wd_955 wd_956 wd_957 wd_1 wd_958 (by decide +kernel) ⟨Nat.le_of_ble_eq_true rfl, Nat.le_of_ble_eq_true rfl⟩ hW hN hK rfl hl.1 rfl (Nat.le_of_ble_eq_true rfl) dLaw_1321 ⟨by rw [hR1]; omega, by rw [hR2]; omega⟩ (fun r196 H locs hr196 hW => ?_)
  refine lv_pop hx hb dLaw_1324 rfl ?_
  refine lv_aload_n hx hb dLaw_1325 rfl (lv_at hl 1 rfl) ?_
  refine lv_aload_n hx hb dLaw_1326 rfl (lv_at hl 3 rfl) ?_
  refine lv_iload_n hx hb dLaw_1327 rfl (lv_at hl 0 rfl) ?_
  refine lv_iconst (v := 1) hx hb dLaw_1328 (by decide) ?_
  refine lv_iadd hx hb dLaw_1329 ?_
  refine lv_topi (fun z197 ez197 => ?_)
  have tz197 := iv_add (Y := 1) ti (by decide) ez197 (by omega) (by omega)
  refine va_sld hx hb hX hbl hbA hW.2.2.2.2.2.2.2 (iv_in (X := (i : Int) + 1) (by omega) (by omega) (by omega)) dLaw_1330 ?_
  rw [show z197.toNatClampNeg = i + 1 from by show z197.toInt.toNat = _; omega]
  refine lv_aload_n hx hb dLaw_1331 rfl (lv_at hl 3 rfl) ?_
  refine lv_iload_n hx hb dLaw_1332 rfl (lv_at hl 0 rfl) ?_
  refine lv_iconst (v := 2) hx hb dLaw_1333 (by decide) ?_
  refine lv_iadd hx hb dLaw_1334 ?_
  refine lv_topi (fun z198 ez198 => ?_)
  have tz198 := iv_add (Y := 2) ti (by decide) ez198 (by omega) (by omega)
  refine va_sld hx hb hX hbl hbA hW.2.2.2.2.2.2.2 (iv_in (X := (i : Int) + 2) (by omega) (by omega) (by omega)) dLaw_1335 ?_
  rw [show z198.toNatClampNeg = i + 2 from by show z198.toInt.toNat = _; omega]
  refine lv_aload_n hx hb dLaw_1336 rfl (lv_at hl 3 rfl) ?_
  refine lv_iload_n hx hb dLaw_1337 rfl (lv_at hl 0 rfl) ?_
  refine lv_iconst (v := 3) hx hb dLaw_1338 (by decide) ?_
  refine lv_iadd hx hb dLaw_1339 ?_
  refine lv_topi (fun z199 ez199 => ?_)
  have tz199 := iv_add (Y := 3) ti (by decide) ez199 (by omega) (by omega)
  refine va_sld hx hb hX hbl hbA hW.2.2.2.2.2.2.2 (iv_in (X := (i : Int) + 3) (by omega) (by omega) (by omega)) dLaw_1340 ?_
  rw [show z199.toNatClampNeg = i + 3 from by show z199.toInt.toNat = _; omega]
  refine lv_aload_n hx hb dLaw_1341 rfl (lv_at hl 3 rfl) ?_
  refine lv_iload_n hx hb dLaw_1342 rfl (lv_at hl 0 rfl) ?_
  refine lv_iconst (v := 4) hx hb dLaw_1343 (by decide) ?_
  refine lv_iadd hx hb dLaw_1344 ?_
  refine lv_topi (fun z200 ez200 => ?_)
  have tz200 := iv_add (Y := 4) ti (by decide) ez200 (by omega) (by omega)
  refine va_sld hx hb hX hbl hbA hW.2.2.2.2.2.2.2 (iv_in (X := (i : Int) + 4) (by omega) (by omega) (by omega)) dLaw_1345 ?_
  rw [show z200.toNatClampNeg = i + 4 from by show z200.toInt.toNat = _; omega]
  refine lv_aload_n hx hb dLaw_1346 rfl (lv_at hl 3 rfl) ?_
  refine lv_iload_n hx hb dLaw_1347 rfl (lv_at hl 0 rfl) ?_
  refine lv_iconst (v := 5) hx hb dLaw_1348 (by decide) ?_
  refine lv_iadd hx hb dLaw_1349 ?_
  refine lv_topi (fun z201 ez201 => ?_)
  have tz201 := iv_add (Y := 5) ti (by decide) ez201 (by omega) (by omega)
  refine va_sld hx hb hX hbl hbA hW.2.2.2.2.2.2.2 (iv_in (X := (i : Int) + 5) (by omega) (by omega) (by omega)) dLaw_1350 ?_
  rw [show z201.toNatClampNeg = i + 5 from by show z201.toInt.toNat = _; omega]
  refine lm_i (post := fun _ => True) (As := [.int (xs (i + 1)), .int (xs (i + 2)), .int (xs (i + 3)), .int (xs (i + 4)), .int (xs (i + 5))]) (rest := []) (n := 5) (d := 69) ⟨hx, hb, hml, hown, hts⟩ (c_X12_least l E D Gm ma hW.2.2.2.1 (xs (i + 1)) (xs (i + 2)) (xs (i + 3)) (xs (i + 4)) (xs (i + 5))) wd_1729 wd_1730 wd_1731 wd_13 wd_1732 (by decide +kernel) ⟨Nat.le_of_ble_eq_true rfl, Nat.le_of_ble_eq_true rfl⟩ hW hN hK rfl hl.1 rfl (Nat.le_of_ble_eq_true rfl) dLaw_1351 ⟨by rw [hR1]; omega, by rw [hR2]; omega⟩ (fun r202 H locs hr202 hW => ?_)
  refine lv_pop hx hb dLaw_1354 rfl ?_
  refine lv_goto (tgt := 2004) hx hb dLaw_1355 (by decide) ?_
  exact W.widen (k := cells + 18) (n := slots + 441) (by omega) (by omega) (kk _ _ _ _ _ X0 hW hT)
set_option maxHeartbeats 4000000 in
set_option maxRecDepth 100000 in
theorem law_c30 {p : Program} {e : Env} {s : State} {m : MethodId} {below : List Frame} {meth : Method} {c : Code} {l : Launch} {b L : Nat} {xs : Nat → Int32} (C0 : lw_At p s m meth c b L xs) {E : Nat → Nat} {D : va_G} {adK adV : Nat → Nat} (X0 : LCx E D adK adV s) {xa ma i : Nat} (hi : i + 7 ≤ L) (hL : L ≤ 3584) {Gc Gm : th_G} {nn : Nat} {H : Heap} {locs : List Loc} (hW : LWs E D s xa ma Gc Gm nn H locs) (hT : TI E Gc xa nn) (hU : UQ Gm 1 ∧ UQ Gm 2 ∧ UQ Gm 11) {cells slots : Nat} (hc1 : cells + 18 ≤ 600000) (hc2 : slots + 441 ≤ 7302250) {ls : Array Slot} (hl : lv_has ls 4 [(3, .int (nI i)), (2, .ref ma), (1, .ref xa), (0, .ref b)]) (kk : ∀ (E : Nat → Nat) (Gc : th_G) (nn : Nat) (H : Heap) (locs : List Loc), LCx E D adK adV s → LWs E D s xa ma Gc Gm nn H locs → TI E Gc xa nn → W p l e room_1 s m #[Value.ref b] below meth c H locs (cells + 18) (slots + 441) (lw_Z below #[Value.ref b] s) (F0 m 2004 ls [])) : W p l e room_1 s m #[Value.ref b] below meth c H locs cells slots (lw_Z below #[Value.ref b] s) (F0 m 1358 ls []) := by
  obtain ⟨hx, hb, hr, hml, hown, hts0, hX, hbl, hlocks, hgv⟩ := id C0
  obtain ⟨hN, hK, hWS, hCL, hAO⟩ := id X0
  have hbA : ¬ LWa s b := Nat.not_le.mpr hbl
  have hts := lw_tb (w := Cond.initialized RX12) wd_13 hts0
  have hR1 : room_1.cells = 600000 := rfl
  have hR2 : room_1.slots = 7302250 := rfl
  have ti : (nI i).toInt = (i : Int) := nI_toInt (by omega)
  refine lv_aload_n hx hb dLaw_1358 rfl (lv_at hl 2 rfl) ?_
  refine lv_aload_n hx hb dLaw_1359 rfl (lv_at hl 3 rfl) ?_
  refine lv_iload_n hx hb dLaw_1360 rfl (lv_at hl 0 rfl) ?_
  refine lv_iconst (v := 1) hx hb dLaw_1361 (by decide) ?_
  refine lv_iadd hx hb dLaw_1362 ?_
  refine lv_topi (fun z203 ez203 => ?_)
  have tz203 := iv_add (Y := 1) ti (by decide) ez203 (by omega) (by omega)
  refine va_sld hx hb hX hbl hbA hW.2.2.2.2.2.2.2 (iv_in (X := (i : Int) + 1) (by omega) (by omega) (by omega)) dLaw_1363 ?_
  rw [show z203.toNatClampNeg = i + 1 from by show z203.toInt.toNat = _; omega]
  refine lv_aload_n hx hb dLaw_1364 rfl (lv_at hl 3 rfl) ?_
  refine lv_iload_n hx hb dLaw_1365 rfl (lv_at hl 0 rfl) ?_
  refine lv_iconst (v := 2) hx hb dLaw_1366 (by decide) ?_
  refine lv_iadd hx hb dLaw_1367 ?_
  refine lv_topi (fun z204 ez204 => ?_)
  have tz204 := iv_add (Y := 2) ti (by decide) ez204 (by omega) (by omega)
  refine va_sld hx hb hX hbl hbA hW.2.2.2.2.2.2.2 (iv_in (X := (i : Int) + 2) (by omega) (by omega) (by omega)) dLaw_1368 ?_
  rw [show z204.toNatClampNeg = i + 2 from by show z204.toInt.toNat = _; omega]
  refine lv_aload_n hx hb dLaw_1369 rfl (lv_at hl 3 rfl) ?_
  refine lv_iload_n hx hb dLaw_1370 rfl (lv_at hl 0 rfl) ?_
  refine lv_iconst (v := 3) hx hb dLaw_1371 (by decide) ?_
  refine lv_iadd hx hb dLaw_1372 ?_
  refine lv_topi (fun z205 ez205 => ?_)
  have tz205 := iv_add (Y := 3) ti (by decide) ez205 (by omega) (by omega)
  refine va_sld hx hb hX hbl hbA hW.2.2.2.2.2.2.2 (iv_in (X := (i : Int) + 3) (by omega) (by omega) (by omega)) dLaw_1373 ?_
  rw [show z205.toNatClampNeg = i + 3 from by show z205.toInt.toNat = _; omega]
  refine lv_aload_n hx hb dLaw_1374 rfl (lv_at hl 3 rfl) ?_
  refine lv_iload_n hx hb dLaw_1375 rfl (lv_at hl 0 rfl) ?_
  refine lv_iconst (v := 4) hx hb dLaw_1376 (by decide) ?_
  refine lv_iadd hx hb dLaw_1377 ?_
  refine lv_topi (fun z206 ez206 => ?_)
  have tz206 := iv_add (Y := 4) ti (by decide) ez206 (by omega) (by omega)
  refine va_sld hx hb hX hbl hbA hW.2.2.2.2.2.2.2 (iv_in (X := (i : Int) + 4) (by omega) (by omega) (by omega)) dLaw_1378 ?_
  rw [show z206.toNatClampNeg = i + 4 from by show z206.toInt.toNat = _; omega]
  obtain ⟨sa, t, hTS⟩ := id hT
  refine lc_e (As := [.int (xs (i + 1)), .int (xs (i + 2)), .int (xs (i + 3)), .int (xs (i + 4))]) (rest := []) (n := 4) (d := 2) ⟨hx, hb, hml, hown, hts⟩ (c_X11_sight l E D Gc xa nn hW.2.1 (xs (i + 1)) (xs (i + 2)) (xs (i + 3)) (xs (i + 4)) sa t hTS.1 hTS.2.1) (fun j hj => eu_ne (by omega)) wd_975 wd_976 wd_977 wd_1 wd_978 (by decide +kernel) ⟨Nat.le_of_ble_eq_true rfl, Nat.le_of_ble_eq_true rfl⟩ hW hN hK rfl hl.1 rfl (Nat.le_of_ble_eq_true rfl) dLaw_1379 ⟨by rw [hR1]; omega, by rw [hR2]; omega⟩ (fun r207 H locs E1 hE1 hr207 hW => ?_)
  have XE1 := LCx_eq (E' := E1) (fun j hj => by rw [hE1]; exact eu_ne (by omega)) X0
  obtain ⟨hN, hK, hWS, hCL, hAO⟩ := id XE1
  refine lv_pop hx hb dLaw_1382 rfl ?_
  refine lv_aload_n hx hb dLaw_1383 rfl (lv_at hl 1 rfl) ?_
  refine lv_aload_n hx hb dLaw_1384 rfl (lv_at hl 3 rfl) ?_
  refine lv_iload_n hx hb dLaw_1385 rfl (lv_at hl 0 rfl) ?_
  refine lv_iconst (v := 1) hx hb dLaw_1386 (by decide) ?_
  refine lv_iadd hx hb dLaw_1387 ?_
  refine lv_topi (fun z208 ez208 => ?_)
  have tz208 := iv_add (Y := 1) ti (by decide) ez208 (by omega) (by omega)
  refine va_sld hx hb hX hbl hbA hW.2.2.2.2.2.2.2 (iv_in (X := (i : Int) + 1) (by omega) (by omega) (by omega)) dLaw_1388 ?_
  rw [show z208.toNatClampNeg = i + 1 from by show z208.toInt.toNat = _; omega]
  refine lv_aload_n hx hb dLaw_1389 rfl (lv_at hl 3 rfl) ?_
  refine lv_iload_n hx hb dLaw_1390 rfl (lv_at hl 0 rfl) ?_
  refine lv_iconst (v := 2) hx hb dLaw_1391 (by decide) ?_
  refine lv_iadd hx hb dLaw_1392 ?_
  refine lv_topi (fun z209 ez209 => ?_)
  have tz209 := iv_add (Y := 2) ti (by decide) ez209 (by omega) (by omega)
  refine va_sld hx hb hX hbl hbA hW.2.2.2.2.2.2.2 (iv_in (X := (i : Int) + 2) (by omega) (by omega) (by omega)) dLaw_1393 ?_
  rw [show z209.toNatClampNeg = i + 2 from by show z209.toInt.toNat = _; omega]
  refine lv_aload_n hx hb dLaw_1394 rfl (lv_at hl 3 rfl) ?_
  refine lv_iload_n hx hb dLaw_1395 rfl (lv_at hl 0 rfl) ?_
  refine lv_iconst (v := 3) hx hb dLaw_1396 (by decide) ?_
  refine lv_iadd hx hb dLaw_1397 ?_
  refine lv_topi (fun z210 ez210 => ?_)
  have tz210 := iv_add (Y := 3) ti (by decide) ez210 (by omega) (by omega)
  refine va_sld hx hb hX hbl hbA hW.2.2.2.2.2.2.2 (iv_in (X := (i : Int) + 3) (by omega) (by omega) (by omega)) dLaw_1398 ?_
  rw [show z210.toNatClampNeg = i + 3 from by show z210.toInt.toNat = _; omega]
  refine lv_aload_n hx hb dLaw_1399 rfl (lv_at hl 3 rfl) ?_
  refine lv_iload_n hx hb dLaw_1400 rfl (lv_at hl 0 rfl) ?_
  refine lv_iconst (v := 4) hx hb dLaw_1401 (by decide) ?_
  refine lv_iadd hx hb dLaw_1402 ?_
  refine lv_topi (fun z211 ez211 => ?_)
  have tz211 := iv_add (Y := 4) ti (by decide) ez211 (by omega) (by omega)
  refine va_sld hx hb hX hbl hbA hW.2.2.2.2.2.2.2 (iv_in (X := (i : Int) + 4) (by omega) (by omega) (by omega)) dLaw_1403 ?_
  rw [show z211.toNatClampNeg = i + 4 from by show z211.toInt.toNat = _; omega]
  refine lm_e (As := [.int (xs (i + 1)), .int (xs (i + 2)), .int (xs (i + 3)), .int (xs (i + 4))]) (rest := []) (n := 4) (d := 2) ⟨hx, hb, hml, hown, hts⟩ (c_X12_sight l E1 D Gm ma hW.2.2.2.1 (xs (i + 1)) (xs (i + 2)) (xs (i + 3)) (xs (i + 4)) hU.1) (fun j hj => eu_ne (by omega)) wd_1741 wd_1742 wd_1743 wd_13 wd_1744 (by decide +kernel) ⟨Nat.le_of_ble_eq_true rfl, Nat.le_of_ble_eq_true rfl⟩ hW hN hK rfl hl.1 rfl (Nat.le_of_ble_eq_true rfl) dLaw_1404 ⟨by rw [hR1]; omega, by rw [hR2]; omega⟩ (fun r212 H locs E2 hE2 hr212 hW => ?_)
  have XE2 := LCx_eq (E' := E2) (fun j hj => by rw [hE2]; exact eu_ne (by omega)) XE1
  obtain ⟨hN, hK, hWS, hCL, hAO⟩ := id XE2
  have h10 : E1 10 = E (32 + 8 * t) := by rw [hE1, eu_ne (by omega)]; exact hTS.2.2.1.symm
  have hT : TI E2 Gc xa nn := by rw [hE2, h10, hE1]; exact TI_set hTS
  refine lv_pop hx hb dLaw_1407 rfl ?_
  refine lv_goto (tgt := 2004) hx hb dLaw_1408 (by decide) ?_
  exact W.widen (k := cells + 18) (n := slots + 441) (by omega) (by omega) (kk _ _ _ _ _ XE2 hW hT)
set_option maxHeartbeats 4000000 in
set_option maxRecDepth 100000 in
theorem law_c31 {p : Program} {e : Env} {s : State} {m : MethodId} {below : List Frame} {meth : Method} {c : Code} {l : Launch} {b L : Nat} {xs : Nat → Int32} (C0 : lw_At p s m meth c b L xs) {E : Nat → Nat} {D : va_G} {adK adV : Nat → Nat} (X0 : LCx E D adK adV s) {xa ma i : Nat} (hi : i + 7 ≤ L) (hL : L ≤ 3584) {Gc Gm : th_G} {nn : Nat} {H : Heap} {locs : List Loc} (hW : LWs E D s xa ma Gc Gm nn H locs) (hT : TI E Gc xa nn) (hU : UQ Gm 1 ∧ UQ Gm 2 ∧ UQ Gm 11) {cells slots : Nat} (hc1 : cells + 18 ≤ 600000) (hc2 : slots + 441 ≤ 7302250) {ls : Array Slot} (hl : lv_has ls 4 [(3, .int (nI i)), (2, .ref ma), (1, .ref xa), (0, .ref b)]) (kk : ∀ (E : Nat → Nat) (Gc : th_G) (nn : Nat) (H : Heap) (locs : List Loc), LCx E D adK adV s → LWs E D s xa ma Gc Gm nn H locs → TI E Gc xa nn → W p l e room_1 s m #[Value.ref b] below meth c H locs (cells + 18) (slots + 441) (lw_Z below #[Value.ref b] s) (F0 m 2004 ls [])) : W p l e room_1 s m #[Value.ref b] below meth c H locs cells slots (lw_Z below #[Value.ref b] s) (F0 m 1411 ls []) := by
  obtain ⟨hx, hb, hr, hml, hown, hts0, hX, hbl, hlocks, hgv⟩ := id C0
  obtain ⟨hN, hK, hWS, hCL, hAO⟩ := id X0
  have hbA : ¬ LWa s b := Nat.not_le.mpr hbl
  have hts := lw_tb (w := Cond.initialized RX12) wd_13 hts0
  have hR1 : room_1.cells = 600000 := rfl
  have hR2 : room_1.slots = 7302250 := rfl
  have ti : (nI i).toInt = (i : Int) := nI_toInt (by omega)
  refine lv_aload_n hx hb dLaw_1411 rfl (lv_at hl 2 rfl) ?_
  obtain ⟨sa, t, hTS⟩ := id hT
  refine lc_e (As := []) (rest := []) (n := 0) (d := 2) ⟨hx, hb, hml, hown, hts⟩ (c_X11_forget l E D Gc xa nn hW.2.1  sa t hTS.1 hTS.2.1) (fun j hj => eu_ne (by omega)) wd_979 wd_980 wd_981 wd_1 wd_982 (by decide +kernel) ⟨Nat.le_of_ble_eq_true rfl, Nat.le_of_ble_eq_true rfl⟩ hW hN hK rfl hl.1 rfl (Nat.le_of_ble_eq_true rfl) dLaw_1412 ⟨by rw [hR1]; omega, by rw [hR2]; omega⟩ (fun r213 H locs E1 hE1 hr213 hW => ?_)
  have XE1 := LCx_eq (E' := E1) (fun j hj => by rw [hE1]; exact eu_ne (by omega)) X0
  obtain ⟨hN, hK, hWS, hCL, hAO⟩ := id XE1
  refine lv_aload_n hx hb dLaw_1415 rfl (lv_at hl 1 rfl) ?_
  refine lm_e (As := []) (rest := [.int r213]) (n := 0) (d := 1) ⟨hx, hb, hml, hown, hts⟩ (c_X12_forget l E1 D Gm ma hW.2.2.2.1  hU.1) (fun j hj => eu_ne (by omega)) wd_1745 wd_1746 wd_1747 wd_13 wd_1748 (by decide +kernel) ⟨Nat.le_of_ble_eq_true rfl, Nat.le_of_ble_eq_true rfl⟩ hW hN hK rfl hl.1 rfl (Nat.le_of_ble_eq_true rfl) dLaw_1416 ⟨by rw [hR1]; omega, by rw [hR2]; omega⟩ (fun r214 H locs E2 hE2 hr214 hW => ?_)
  have XE2 := LCx_eq (E' := E2) (fun j hj => by rw [hE2]; exact eu_ne (by omega)) XE1
  obtain ⟨hN, hK, hWS, hCL, hAO⟩ := id XE2
  have h10 : E1 10 = E (32 + 8 * t) := by rw [hE1, eu_ne (by omega)]; exact hTS.2.2.1.symm
  have hT : TI E2 Gc xa nn := by rw [hE2, hE1]; exact TI_set hTS
  have hsm : r213 = r214 := one_same hr213 (by rw [h10] at hr214; exact hr214)
  refine lv_icmp_eq (tgt := 2004) hx hb dLaw_1419 (by decide) (fun _ => ?_) (fun hne => absurd hsm hne)
  exact W.widen (k := cells + 18) (n := slots + 441) (by omega) (by omega) (kk _ _ _ _ _ XE2 hW hT)
set_option maxHeartbeats 4000000 in
set_option maxRecDepth 100000 in
theorem law_c32 {p : Program} {e : Env} {s : State} {m : MethodId} {below : List Frame} {meth : Method} {c : Code} {l : Launch} {b L : Nat} {xs : Nat → Int32} (C0 : lw_At p s m meth c b L xs) {E : Nat → Nat} {D : va_G} {adK adV : Nat → Nat} (X0 : LCx E D adK adV s) {xa ma i : Nat} (hi : i + 7 ≤ L) (hL : L ≤ 3584) {Gc Gm : th_G} {nn : Nat} {H : Heap} {locs : List Loc} (hW : LWs E D s xa ma Gc Gm nn H locs) (hT : TI E Gc xa nn) (hU : UQ Gm 1 ∧ UQ Gm 2 ∧ UQ Gm 11) {cells slots : Nat} (hc1 : cells + 18 ≤ 600000) (hc2 : slots + 441 ≤ 7302250) {ls : Array Slot} (hl : lv_has ls 4 [(3, .int (nI i)), (2, .ref ma), (1, .ref xa), (0, .ref b)]) (kk : ∀ (E : Nat → Nat) (Gc : th_G) (nn : Nat) (H : Heap) (locs : List Loc), LCx E D adK adV s → LWs E D s xa ma Gc Gm nn H locs → TI E Gc xa nn → W p l e room_1 s m #[Value.ref b] below meth c H locs (cells + 18) (slots + 441) (lw_Z below #[Value.ref b] s) (F0 m 2004 ls [])) : W p l e room_1 s m #[Value.ref b] below meth c H locs cells slots (lw_Z below #[Value.ref b] s) (F0 m 1424 ls []) := by
  obtain ⟨hx, hb, hr, hml, hown, hts0, hX, hbl, hlocks, hgv⟩ := id C0
  obtain ⟨hN, hK, hWS, hCL, hAO⟩ := id X0
  have hbA : ¬ LWa s b := Nat.not_le.mpr hbl
  have hts := lw_tb (w := Cond.initialized RX12) wd_13 hts0
  have hR1 : room_1.cells = 600000 := rfl
  have hR2 : room_1.slots = 7302250 := rfl
  have ti : (nI i).toInt = (i : Int) := nI_toInt (by omega)
  refine lv_aload_n hx hb dLaw_1424 rfl (lv_at hl 2 rfl) ?_
  refine lv_aload_n hx hb dLaw_1425 rfl (lv_at hl 3 rfl) ?_
  refine lv_iload_n hx hb dLaw_1426 rfl (lv_at hl 0 rfl) ?_
  refine lv_iconst (v := 1) hx hb dLaw_1427 (by decide) ?_
  refine lv_iadd hx hb dLaw_1428 ?_
  refine lv_topi (fun z215 ez215 => ?_)
  have tz215 := iv_add (Y := 1) ti (by decide) ez215 (by omega) (by omega)
  refine va_sld hx hb hX hbl hbA hW.2.2.2.2.2.2.2 (iv_in (X := (i : Int) + 1) (by omega) (by omega) (by omega)) dLaw_1429 ?_
  rw [show z215.toNatClampNeg = i + 1 from by show z215.toInt.toNat = _; omega]
  refine lc_i (As := [.int (xs (i + 1))]) (rest := []) (n := 1) (d := 8) ⟨hx, hb, hml, hown, hts⟩ (c_X11_so l E D Gc xa nn hW.2.1 (xs (i + 1))) wd_987 wd_988 wd_989 wd_1 wd_990 (by decide +kernel) ⟨Nat.le_of_ble_eq_true rfl, Nat.le_of_ble_eq_true rfl⟩ hW hN hK rfl hl.1 rfl (Nat.le_of_ble_eq_true rfl) dLaw_1430 ⟨by rw [hR1]; omega, by rw [hR2]; omega⟩ (fun r216 H locs hr216 hW => ?_)
  refine lv_pop hx hb dLaw_1433 rfl ?_
  refine lv_aload_n hx hb dLaw_1434 rfl (lv_at hl 1 rfl) ?_
  refine lv_aload_n hx hb dLaw_1435 rfl (lv_at hl 3 rfl) ?_
  refine lv_iload_n hx hb dLaw_1436 rfl (lv_at hl 0 rfl) ?_
  refine lv_iconst (v := 1) hx hb dLaw_1437 (by decide) ?_
  refine lv_iadd hx hb dLaw_1438 ?_
  refine lv_topi (fun z217 ez217 => ?_)
  have tz217 := iv_add (Y := 1) ti (by decide) ez217 (by omega) (by omega)
  refine va_sld hx hb hX hbl hbA hW.2.2.2.2.2.2.2 (iv_in (X := (i : Int) + 1) (by omega) (by omega) (by omega)) dLaw_1439 ?_
  rw [show z217.toNatClampNeg = i + 1 from by show z217.toInt.toNat = _; omega]
  refine lm_i (post := fun _ => True) (As := [.int (xs (i + 1))]) (rest := []) (n := 1) (d := 69) ⟨hx, hb, hml, hown, hts⟩ (c_X12_so l E D Gm ma hW.2.2.2.1 (xs (i + 1))) wd_1753 wd_1754 wd_1755 wd_13 wd_1756 (by decide +kernel) ⟨Nat.le_of_ble_eq_true rfl, Nat.le_of_ble_eq_true rfl⟩ hW hN hK rfl hl.1 rfl (Nat.le_of_ble_eq_true rfl) dLaw_1440 ⟨by rw [hR1]; omega, by rw [hR2]; omega⟩ (fun r218 H locs hr218 hW => ?_)
  refine lv_pop hx hb dLaw_1443 rfl ?_
  refine lv_goto (tgt := 2004) hx hb dLaw_1444 (by decide) ?_
  exact W.widen (k := cells + 18) (n := slots + 441) (by omega) (by omega) (kk _ _ _ _ _ X0 hW hT)
set_option maxHeartbeats 4000000 in
set_option maxRecDepth 100000 in
theorem law_c33 {p : Program} {e : Env} {s : State} {m : MethodId} {below : List Frame} {meth : Method} {c : Code} {l : Launch} {b L : Nat} {xs : Nat → Int32} (C0 : lw_At p s m meth c b L xs) {E : Nat → Nat} {D : va_G} {adK adV : Nat → Nat} (X0 : LCx E D adK adV s) {xa ma i : Nat} (hi : i + 7 ≤ L) (hL : L ≤ 3584) {Gc Gm : th_G} {nn : Nat} {H : Heap} {locs : List Loc} (hW : LWs E D s xa ma Gc Gm nn H locs) (hT : TI E Gc xa nn) (hU : UQ Gm 1 ∧ UQ Gm 2 ∧ UQ Gm 11) {cells slots : Nat} (hc1 : cells + 18 ≤ 600000) (hc2 : slots + 441 ≤ 7302250) {ls : Array Slot} (hl : lv_has ls 4 [(3, .int (nI i)), (2, .ref ma), (1, .ref xa), (0, .ref b)]) (kk : ∀ (E : Nat → Nat) (Gc : th_G) (nn : Nat) (H : Heap) (locs : List Loc), LCx E D adK adV s → LWs E D s xa ma Gc Gm nn H locs → TI E Gc xa nn → W p l e room_1 s m #[Value.ref b] below meth c H locs (cells + 18) (slots + 441) (lw_Z below #[Value.ref b] s) (F0 m 2004 ls [])) : W p l e room_1 s m #[Value.ref b] below meth c H locs cells slots (lw_Z below #[Value.ref b] s) (F0 m 1447 ls []) := by
  obtain ⟨hx, hb, hr, hml, hown, hts0, hX, hbl, hlocks, hgv⟩ := id C0
  obtain ⟨hN, hK, hWS, hCL, hAO⟩ := id X0
  have hbA : ¬ LWa s b := Nat.not_le.mpr hbl
  have hts := lw_tb (w := Cond.initialized RX12) wd_13 hts0
  have hR1 : room_1.cells = 600000 := rfl
  have hR2 : room_1.slots = 7302250 := rfl
  have ti : (nI i).toInt = (i : Int) := nI_toInt (by omega)
  refine lv_aload_n hx hb dLaw_1447 rfl (lv_at hl 2 rfl) ?_
  refine lv_aload_n hx hb dLaw_1448 rfl (lv_at hl 3 rfl) ?_
  refine lv_iload_n hx hb dLaw_1449 rfl (lv_at hl 0 rfl) ?_
  refine lv_iconst (v := 1) hx hb dLaw_1450 (by decide) ?_
  refine lv_iadd hx hb dLaw_1451 ?_
  refine lv_topi (fun z219 ez219 => ?_)
  have tz219 := iv_add (Y := 1) ti (by decide) ez219 (by omega) (by omega)
  refine va_sld hx hb hX hbl hbA hW.2.2.2.2.2.2.2 (iv_in (X := (i : Int) + 1) (by omega) (by omega) (by omega)) dLaw_1452 ?_
  rw [show z219.toNatClampNeg = i + 1 from by show z219.toInt.toNat = _; omega]
  refine lv_aload_n hx hb dLaw_1453 rfl (lv_at hl 3 rfl) ?_
  refine lv_iload_n hx hb dLaw_1454 rfl (lv_at hl 0 rfl) ?_
  refine lv_iconst (v := 2) hx hb dLaw_1455 (by decide) ?_
  refine lv_iadd hx hb dLaw_1456 ?_
  refine lv_topi (fun z220 ez220 => ?_)
  have tz220 := iv_add (Y := 2) ti (by decide) ez220 (by omega) (by omega)
  refine va_sld hx hb hX hbl hbA hW.2.2.2.2.2.2.2 (iv_in (X := (i : Int) + 2) (by omega) (by omega) (by omega)) dLaw_1457 ?_
  rw [show z220.toNatClampNeg = i + 2 from by show z220.toInt.toNat = _; omega]
  refine lc_i (As := [.int (xs (i + 1)), .int (xs (i + 2))]) (rest := []) (n := 2) (d := 8) ⟨hx, hb, hml, hown, hts⟩ (c_X11_suspects l E D Gc xa nn hW.2.1 (xs (i + 1)) (xs (i + 2))) wd_991 wd_992 wd_993 wd_1 wd_994 (by decide +kernel) ⟨Nat.le_of_ble_eq_true rfl, Nat.le_of_ble_eq_true rfl⟩ hW hN hK rfl hl.1 rfl (Nat.le_of_ble_eq_true rfl) dLaw_1458 ⟨by rw [hR1]; omega, by rw [hR2]; omega⟩ (fun r221 H locs hr221 hW => ?_)
  refine lv_pop hx hb dLaw_1461 rfl ?_
  refine lv_aload_n hx hb dLaw_1462 rfl (lv_at hl 1 rfl) ?_
  refine lv_aload_n hx hb dLaw_1463 rfl (lv_at hl 3 rfl) ?_
  refine lv_iload_n hx hb dLaw_1464 rfl (lv_at hl 0 rfl) ?_
  refine lv_iconst (v := 1) hx hb dLaw_1465 (by decide) ?_
  refine lv_iadd hx hb dLaw_1466 ?_
  refine lv_topi (fun z222 ez222 => ?_)
  have tz222 := iv_add (Y := 1) ti (by decide) ez222 (by omega) (by omega)
  refine va_sld hx hb hX hbl hbA hW.2.2.2.2.2.2.2 (iv_in (X := (i : Int) + 1) (by omega) (by omega) (by omega)) dLaw_1467 ?_
  rw [show z222.toNatClampNeg = i + 1 from by show z222.toInt.toNat = _; omega]
  refine lv_aload_n hx hb dLaw_1468 rfl (lv_at hl 3 rfl) ?_
  refine lv_iload_n hx hb dLaw_1469 rfl (lv_at hl 0 rfl) ?_
  refine lv_iconst (v := 2) hx hb dLaw_1470 (by decide) ?_
  refine lv_iadd hx hb dLaw_1471 ?_
  refine lv_topi (fun z223 ez223 => ?_)
  have tz223 := iv_add (Y := 2) ti (by decide) ez223 (by omega) (by omega)
  refine va_sld hx hb hX hbl hbA hW.2.2.2.2.2.2.2 (iv_in (X := (i : Int) + 2) (by omega) (by omega) (by omega)) dLaw_1472 ?_
  rw [show z223.toNatClampNeg = i + 2 from by show z223.toInt.toNat = _; omega]
  refine lm_i (post := fun _ => True) (As := [.int (xs (i + 1)), .int (xs (i + 2))]) (rest := []) (n := 2) (d := 69) ⟨hx, hb, hml, hown, hts⟩ (c_X12_suspects l E D Gm ma hW.2.2.2.1 (xs (i + 1)) (xs (i + 2))) wd_1757 wd_1758 wd_1759 wd_13 wd_1760 (by decide +kernel) ⟨Nat.le_of_ble_eq_true rfl, Nat.le_of_ble_eq_true rfl⟩ hW hN hK rfl hl.1 rfl (Nat.le_of_ble_eq_true rfl) dLaw_1473 ⟨by rw [hR1]; omega, by rw [hR2]; omega⟩ (fun r224 H locs hr224 hW => ?_)
  refine lv_pop hx hb dLaw_1476 rfl ?_
  refine lv_goto (tgt := 2004) hx hb dLaw_1477 (by decide) ?_
  exact W.widen (k := cells + 18) (n := slots + 441) (by omega) (by omega) (kk _ _ _ _ _ X0 hW hT)
set_option maxHeartbeats 4000000 in
set_option maxRecDepth 100000 in
theorem law_c34 {p : Program} {e : Env} {s : State} {m : MethodId} {below : List Frame} {meth : Method} {c : Code} {l : Launch} {b L : Nat} {xs : Nat → Int32} (C0 : lw_At p s m meth c b L xs) {E : Nat → Nat} {D : va_G} {adK adV : Nat → Nat} (X0 : LCx E D adK adV s) {xa ma i : Nat} (hi : i + 7 ≤ L) (hL : L ≤ 3584) {Gc Gm : th_G} {nn : Nat} {H : Heap} {locs : List Loc} (hW : LWs E D s xa ma Gc Gm nn H locs) (hT : TI E Gc xa nn) (hU : UQ Gm 1 ∧ UQ Gm 2 ∧ UQ Gm 11) {cells slots : Nat} (hc1 : cells + 18 ≤ 600000) (hc2 : slots + 441 ≤ 7302250) {ls : Array Slot} (hl : lv_has ls 4 [(3, .int (nI i)), (2, .ref ma), (1, .ref xa), (0, .ref b)]) (kk : ∀ (E : Nat → Nat) (Gc : th_G) (nn : Nat) (H : Heap) (locs : List Loc), LCx E D adK adV s → LWs E D s xa ma Gc Gm nn H locs → TI E Gc xa nn → W p l e room_1 s m #[Value.ref b] below meth c H locs (cells + 18) (slots + 441) (lw_Z below #[Value.ref b] s) (F0 m 2004 ls [])) : W p l e room_1 s m #[Value.ref b] below meth c H locs cells slots (lw_Z below #[Value.ref b] s) (F0 m 1480 ls []) := by
  obtain ⟨hx, hb, hr, hml, hown, hts0, hX, hbl, hlocks, hgv⟩ := id C0
  obtain ⟨hN, hK, hWS, hCL, hAO⟩ := id X0
  have hbA : ¬ LWa s b := Nat.not_le.mpr hbl
  have hts := lw_tb (w := Cond.initialized RX12) wd_13 hts0
  have hR1 : room_1.cells = 600000 := rfl
  have hR2 : room_1.slots = 7302250 := rfl
  have ti : (nI i).toInt = (i : Int) := nI_toInt (by omega)
  refine lv_aload_n hx hb dLaw_1480 rfl (lv_at hl 2 rfl) ?_
  refine lv_aload_n hx hb dLaw_1481 rfl (lv_at hl 3 rfl) ?_
  refine lv_iload_n hx hb dLaw_1482 rfl (lv_at hl 0 rfl) ?_
  refine lv_iconst (v := 1) hx hb dLaw_1483 (by decide) ?_
  refine lv_iadd hx hb dLaw_1484 ?_
  refine lv_topi (fun z225 ez225 => ?_)
  have tz225 := iv_add (Y := 1) ti (by decide) ez225 (by omega) (by omega)
  refine va_sld hx hb hX hbl hbA hW.2.2.2.2.2.2.2 (iv_in (X := (i : Int) + 1) (by omega) (by omega) (by omega)) dLaw_1485 ?_
  rw [show z225.toNatClampNeg = i + 1 from by show z225.toInt.toNat = _; omega]
  refine lc_i (As := [.int (xs (i + 1))]) (rest := []) (n := 1) (d := 8) ⟨hx, hb, hml, hown, hts⟩ (c_X11_pairs l E D Gc xa nn hW.2.1 (xs (i + 1))) wd_1020 wd_1021 wd_1022 wd_1 wd_1023 (by decide +kernel) ⟨Nat.le_of_ble_eq_true rfl, Nat.le_of_ble_eq_true rfl⟩ hW hN hK rfl hl.1 rfl (Nat.le_of_ble_eq_true rfl) dLaw_1486 ⟨by rw [hR1]; omega, by rw [hR2]; omega⟩ (fun r226 H locs hr226 hW => ?_)
  refine lv_pop hx hb dLaw_1489 rfl ?_
  refine lv_aload_n hx hb dLaw_1490 rfl (lv_at hl 1 rfl) ?_
  refine lv_aload_n hx hb dLaw_1491 rfl (lv_at hl 3 rfl) ?_
  refine lv_iload_n hx hb dLaw_1492 rfl (lv_at hl 0 rfl) ?_
  refine lv_iconst (v := 1) hx hb dLaw_1493 (by decide) ?_
  refine lv_iadd hx hb dLaw_1494 ?_
  refine lv_topi (fun z227 ez227 => ?_)
  have tz227 := iv_add (Y := 1) ti (by decide) ez227 (by omega) (by omega)
  refine va_sld hx hb hX hbl hbA hW.2.2.2.2.2.2.2 (iv_in (X := (i : Int) + 1) (by omega) (by omega) (by omega)) dLaw_1495 ?_
  rw [show z227.toNatClampNeg = i + 1 from by show z227.toInt.toNat = _; omega]
  refine lm_i (post := fun _ => True) (As := [.int (xs (i + 1))]) (rest := []) (n := 1) (d := 69) ⟨hx, hb, hml, hown, hts⟩ (c_X12_pairs l E D Gm ma hW.2.2.2.1 (xs (i + 1))) wd_1769 wd_1770 wd_1771 wd_13 wd_1772 (by decide +kernel) ⟨Nat.le_of_ble_eq_true rfl, Nat.le_of_ble_eq_true rfl⟩ hW hN hK rfl hl.1 rfl (Nat.le_of_ble_eq_true rfl) dLaw_1496 ⟨by rw [hR1]; omega, by rw [hR2]; omega⟩ (fun r228 H locs hr228 hW => ?_)
  refine lv_pop hx hb dLaw_1499 rfl ?_
  refine lv_goto (tgt := 2004) hx hb dLaw_1500 (by decide) ?_
  exact W.widen (k := cells + 18) (n := slots + 441) (by omega) (by omega) (kk _ _ _ _ _ X0 hW hT)
set_option maxHeartbeats 4000000 in
set_option maxRecDepth 100000 in
theorem law_c35 {p : Program} {e : Env} {s : State} {m : MethodId} {below : List Frame} {meth : Method} {c : Code} {l : Launch} {b L : Nat} {xs : Nat → Int32} (C0 : lw_At p s m meth c b L xs) {E : Nat → Nat} {D : va_G} {adK adV : Nat → Nat} (X0 : LCx E D adK adV s) {xa ma i : Nat} (hi : i + 7 ≤ L) (hL : L ≤ 3584) {Gc Gm : th_G} {nn : Nat} {H : Heap} {locs : List Loc} (hW : LWs E D s xa ma Gc Gm nn H locs) (hT : TI E Gc xa nn) (hU : UQ Gm 1 ∧ UQ Gm 2 ∧ UQ Gm 11) {cells slots : Nat} (hc1 : cells + 18 ≤ 600000) (hc2 : slots + 441 ≤ 7302250) {ls : Array Slot} (hl : lv_has ls 4 [(3, .int (nI i)), (2, .ref ma), (1, .ref xa), (0, .ref b)]) (kk : ∀ (E : Nat → Nat) (Gc : th_G) (nn : Nat) (H : Heap) (locs : List Loc), LCx E D adK adV s → LWs E D s xa ma Gc Gm nn H locs → TI E Gc xa nn → W p l e room_1 s m #[Value.ref b] below meth c H locs (cells + 18) (slots + 441) (lw_Z below #[Value.ref b] s) (F0 m 2004 ls [])) : W p l e room_1 s m #[Value.ref b] below meth c H locs cells slots (lw_Z below #[Value.ref b] s) (F0 m 1503 ls []) := by
  obtain ⟨hx, hb, hr, hml, hown, hts0, hX, hbl, hlocks, hgv⟩ := id C0
  obtain ⟨hN, hK, hWS, hCL, hAO⟩ := id X0
  have hbA : ¬ LWa s b := Nat.not_le.mpr hbl
  have hts := lw_tb (w := Cond.initialized RX12) wd_13 hts0
  have hR1 : room_1.cells = 600000 := rfl
  have hR2 : room_1.slots = 7302250 := rfl
  have ti : (nI i).toInt = (i : Int) := nI_toInt (by omega)
  refine lv_aload_n hx hb dLaw_1503 rfl (lv_at hl 2 rfl) ?_
  refine lv_aload_n hx hb dLaw_1504 rfl (lv_at hl 3 rfl) ?_
  refine lv_iload_n hx hb dLaw_1505 rfl (lv_at hl 0 rfl) ?_
  refine lv_iconst (v := 1) hx hb dLaw_1506 (by decide) ?_
  refine lv_iadd hx hb dLaw_1507 ?_
  refine lv_topi (fun z229 ez229 => ?_)
  have tz229 := iv_add (Y := 1) ti (by decide) ez229 (by omega) (by omega)
  refine va_sld hx hb hX hbl hbA hW.2.2.2.2.2.2.2 (iv_in (X := (i : Int) + 1) (by omega) (by omega) (by omega)) dLaw_1508 ?_
  rw [show z229.toNatClampNeg = i + 1 from by show z229.toInt.toNat = _; omega]
  refine lv_aload_n hx hb dLaw_1509 rfl (lv_at hl 3 rfl) ?_
  refine lv_iload_n hx hb dLaw_1510 rfl (lv_at hl 0 rfl) ?_
  refine lv_iconst (v := 2) hx hb dLaw_1511 (by decide) ?_
  refine lv_iadd hx hb dLaw_1512 ?_
  refine lv_topi (fun z230 ez230 => ?_)
  have tz230 := iv_add (Y := 2) ti (by decide) ez230 (by omega) (by omega)
  refine va_sld hx hb hX hbl hbA hW.2.2.2.2.2.2.2 (iv_in (X := (i : Int) + 2) (by omega) (by omega) (by omega)) dLaw_1513 ?_
  rw [show z230.toNatClampNeg = i + 2 from by show z230.toInt.toNat = _; omega]
  refine lv_aload_n hx hb dLaw_1514 rfl (lv_at hl 3 rfl) ?_
  refine lv_iload_n hx hb dLaw_1515 rfl (lv_at hl 0 rfl) ?_
  refine lv_iconst (v := 3) hx hb dLaw_1516 (by decide) ?_
  refine lv_iadd hx hb dLaw_1517 ?_
  refine lv_topi (fun z231 ez231 => ?_)
  have tz231 := iv_add (Y := 3) ti (by decide) ez231 (by omega) (by omega)
  refine va_sld hx hb hX hbl hbA hW.2.2.2.2.2.2.2 (iv_in (X := (i : Int) + 3) (by omega) (by omega) (by omega)) dLaw_1518 ?_
  rw [show z231.toNatClampNeg = i + 3 from by show z231.toInt.toNat = _; omega]
  refine lc_i (As := [.int (xs (i + 1)), .int (xs (i + 2)), .int (xs (i + 3))]) (rest := []) (n := 3) (d := 2) ⟨hx, hb, hml, hown, hts⟩ (c_X11_job l E D Gc xa nn hW.2.1 (xs (i + 1)) (xs (i + 2)) (xs (i + 3))) wd_1042 wd_1043 wd_1044 wd_1 wd_1045 (by decide +kernel) ⟨Nat.le_of_ble_eq_true rfl, Nat.le_of_ble_eq_true rfl⟩ hW hN hK rfl hl.1 rfl (Nat.le_of_ble_eq_true rfl) dLaw_1519 ⟨by rw [hR1]; omega, by rw [hR2]; omega⟩ (fun r232 H locs hr232 hW => ?_)
  refine lv_pop hx hb dLaw_1522 rfl ?_
  refine lv_aload_n hx hb dLaw_1523 rfl (lv_at hl 1 rfl) ?_
  refine lv_aload_n hx hb dLaw_1524 rfl (lv_at hl 3 rfl) ?_
  refine lv_iload_n hx hb dLaw_1525 rfl (lv_at hl 0 rfl) ?_
  refine lv_iconst (v := 1) hx hb dLaw_1526 (by decide) ?_
  refine lv_iadd hx hb dLaw_1527 ?_
  refine lv_topi (fun z233 ez233 => ?_)
  have tz233 := iv_add (Y := 1) ti (by decide) ez233 (by omega) (by omega)
  refine va_sld hx hb hX hbl hbA hW.2.2.2.2.2.2.2 (iv_in (X := (i : Int) + 1) (by omega) (by omega) (by omega)) dLaw_1528 ?_
  rw [show z233.toNatClampNeg = i + 1 from by show z233.toInt.toNat = _; omega]
  refine lv_aload_n hx hb dLaw_1529 rfl (lv_at hl 3 rfl) ?_
  refine lv_iload_n hx hb dLaw_1530 rfl (lv_at hl 0 rfl) ?_
  refine lv_iconst (v := 2) hx hb dLaw_1531 (by decide) ?_
  refine lv_iadd hx hb dLaw_1532 ?_
  refine lv_topi (fun z234 ez234 => ?_)
  have tz234 := iv_add (Y := 2) ti (by decide) ez234 (by omega) (by omega)
  refine va_sld hx hb hX hbl hbA hW.2.2.2.2.2.2.2 (iv_in (X := (i : Int) + 2) (by omega) (by omega) (by omega)) dLaw_1533 ?_
  rw [show z234.toNatClampNeg = i + 2 from by show z234.toInt.toNat = _; omega]
  refine lv_aload_n hx hb dLaw_1534 rfl (lv_at hl 3 rfl) ?_
  refine lv_iload_n hx hb dLaw_1535 rfl (lv_at hl 0 rfl) ?_
  refine lv_iconst (v := 3) hx hb dLaw_1536 (by decide) ?_
  refine lv_iadd hx hb dLaw_1537 ?_
  refine lv_topi (fun z235 ez235 => ?_)
  have tz235 := iv_add (Y := 3) ti (by decide) ez235 (by omega) (by omega)
  refine va_sld hx hb hX hbl hbA hW.2.2.2.2.2.2.2 (iv_in (X := (i : Int) + 3) (by omega) (by omega) (by omega)) dLaw_1538 ?_
  rw [show z235.toNatClampNeg = i + 3 from by show z235.toInt.toNat = _; omega]
  refine lm_i (post := fun _ => True) (As := [.int (xs (i + 1)), .int (xs (i + 2)), .int (xs (i + 3))]) (rest := []) (n := 3) (d := 2) ⟨hx, hb, hml, hown, hts⟩ (c_X12_job l E D Gm ma hW.2.2.2.1 (xs (i + 1)) (xs (i + 2)) (xs (i + 3))) wd_1773 wd_1774 wd_1775 wd_13 wd_1776 (by decide +kernel) ⟨Nat.le_of_ble_eq_true rfl, Nat.le_of_ble_eq_true rfl⟩ hW hN hK rfl hl.1 rfl (Nat.le_of_ble_eq_true rfl) dLaw_1539 ⟨by rw [hR1]; omega, by rw [hR2]; omega⟩ (fun r236 H locs hr236 hW => ?_)
  refine lv_pop hx hb dLaw_1542 rfl ?_
  refine lv_goto (tgt := 2004) hx hb dLaw_1543 (by decide) ?_
  exact W.widen (k := cells + 18) (n := slots + 441) (by omega) (by omega) (kk _ _ _ _ _ X0 hW hT)
set_option maxHeartbeats 4000000 in
set_option maxRecDepth 100000 in
theorem law_c36 {p : Program} {e : Env} {s : State} {m : MethodId} {below : List Frame} {meth : Method} {c : Code} {l : Launch} {b L : Nat} {xs : Nat → Int32} (C0 : lw_At p s m meth c b L xs) {E : Nat → Nat} {D : va_G} {adK adV : Nat → Nat} (X0 : LCx E D adK adV s) {xa ma i : Nat} (hi : i + 7 ≤ L) (hL : L ≤ 3584) {Gc Gm : th_G} {nn : Nat} {H : Heap} {locs : List Loc} (hW : LWs E D s xa ma Gc Gm nn H locs) (hT : TI E Gc xa nn) (hU : UQ Gm 1 ∧ UQ Gm 2 ∧ UQ Gm 11) {cells slots : Nat} (hc1 : cells + 18 ≤ 600000) (hc2 : slots + 441 ≤ 7302250) {ls : Array Slot} (hl : lv_has ls 4 [(3, .int (nI i)), (2, .ref ma), (1, .ref xa), (0, .ref b)]) (kk : ∀ (E : Nat → Nat) (Gc : th_G) (nn : Nat) (H : Heap) (locs : List Loc), LCx E D adK adV s → LWs E D s xa ma Gc Gm nn H locs → TI E Gc xa nn → W p l e room_1 s m #[Value.ref b] below meth c H locs (cells + 18) (slots + 441) (lw_Z below #[Value.ref b] s) (F0 m 2004 ls [])) : W p l e room_1 s m #[Value.ref b] below meth c H locs cells slots (lw_Z below #[Value.ref b] s) (F0 m 1546 ls []) := by
  obtain ⟨hx, hb, hr, hml, hown, hts0, hX, hbl, hlocks, hgv⟩ := id C0
  obtain ⟨hN, hK, hWS, hCL, hAO⟩ := id X0
  have hbA : ¬ LWa s b := Nat.not_le.mpr hbl
  have hts := lw_tb (w := Cond.initialized RX12) wd_13 hts0
  have hR1 : room_1.cells = 600000 := rfl
  have hR2 : room_1.slots = 7302250 := rfl
  have ti : (nI i).toInt = (i : Int) := nI_toInt (by omega)
  refine lv_aload_n hx hb dLaw_1546 rfl (lv_at hl 2 rfl) ?_
  refine lc_i (As := []) (rest := []) (n := 0) (d := 2) ⟨hx, hb, hml, hown, hts⟩ (c_X11_hang l E D Gc xa nn hW.2.1 ) wd_1046 wd_1047 wd_1048 wd_1 wd_1049 (by decide +kernel) ⟨Nat.le_of_ble_eq_true rfl, Nat.le_of_ble_eq_true rfl⟩ hW hN hK rfl hl.1 rfl (Nat.le_of_ble_eq_true rfl) dLaw_1547 ⟨by rw [hR1]; omega, by rw [hR2]; omega⟩ (fun r237 H locs hr237 hW => ?_)
  refine lv_pop hx hb dLaw_1550 rfl ?_
  refine lv_aload_n hx hb dLaw_1551 rfl (lv_at hl 1 rfl) ?_
  refine lm_i (post := fun _ => True) (As := []) (rest := []) (n := 0) (d := 1) ⟨hx, hb, hml, hown, hts⟩ (c_X12_hang l E D Gm ma hW.2.2.2.1 ) wd_1777 wd_1778 wd_1779 wd_13 wd_1780 (by decide +kernel) ⟨Nat.le_of_ble_eq_true rfl, Nat.le_of_ble_eq_true rfl⟩ hW hN hK rfl hl.1 rfl (Nat.le_of_ble_eq_true rfl) dLaw_1552 ⟨by rw [hR1]; omega, by rw [hR2]; omega⟩ (fun r238 H locs hr238 hW => ?_)
  refine lv_pop hx hb dLaw_1555 rfl ?_
  refine lv_goto (tgt := 2004) hx hb dLaw_1556 (by decide) ?_
  exact W.widen (k := cells + 18) (n := slots + 441) (by omega) (by omega) (kk _ _ _ _ _ X0 hW hT)
set_option maxHeartbeats 4000000 in
set_option maxRecDepth 100000 in
theorem law_c37 {p : Program} {e : Env} {s : State} {m : MethodId} {below : List Frame} {meth : Method} {c : Code} {l : Launch} {b L : Nat} {xs : Nat → Int32} (C0 : lw_At p s m meth c b L xs) {E : Nat → Nat} {D : va_G} {adK adV : Nat → Nat} (X0 : LCx E D adK adV s) {xa ma i : Nat} (hi : i + 7 ≤ L) (hL : L ≤ 3584) {Gc Gm : th_G} {nn : Nat} {H : Heap} {locs : List Loc} (hW : LWs E D s xa ma Gc Gm nn H locs) (hT : TI E Gc xa nn) (hU : UQ Gm 1 ∧ UQ Gm 2 ∧ UQ Gm 11) {cells slots : Nat} (hc1 : cells + 18 ≤ 600000) (hc2 : slots + 441 ≤ 7302250) {ls : Array Slot} (hl : lv_has ls 4 [(3, .int (nI i)), (2, .ref ma), (1, .ref xa), (0, .ref b)]) (kk : ∀ (E : Nat → Nat) (Gc : th_G) (nn : Nat) (H : Heap) (locs : List Loc), LCx E D adK adV s → LWs E D s xa ma Gc Gm nn H locs → TI E Gc xa nn → W p l e room_1 s m #[Value.ref b] below meth c H locs (cells + 18) (slots + 441) (lw_Z below #[Value.ref b] s) (F0 m 2004 ls [])) : W p l e room_1 s m #[Value.ref b] below meth c H locs cells slots (lw_Z below #[Value.ref b] s) (F0 m 1559 ls []) := by
  obtain ⟨hx, hb, hr, hml, hown, hts0, hX, hbl, hlocks, hgv⟩ := id C0
  obtain ⟨hN, hK, hWS, hCL, hAO⟩ := id X0
  have hbA : ¬ LWa s b := Nat.not_le.mpr hbl
  have hts := lw_tb (w := Cond.initialized RX12) wd_13 hts0
  have hR1 : room_1.cells = 600000 := rfl
  have hR2 : room_1.slots = 7302250 := rfl
  have ti : (nI i).toInt = (i : Int) := nI_toInt (by omega)
  refine lv_aload_n hx hb dLaw_1559 rfl (lv_at hl 2 rfl) ?_
  refine lv_aload_n hx hb dLaw_1560 rfl (lv_at hl 3 rfl) ?_
  refine lv_iload_n hx hb dLaw_1561 rfl (lv_at hl 0 rfl) ?_
  refine lv_iconst (v := 1) hx hb dLaw_1562 (by decide) ?_
  refine lv_iadd hx hb dLaw_1563 ?_
  refine lv_topi (fun z239 ez239 => ?_)
  have tz239 := iv_add (Y := 1) ti (by decide) ez239 (by omega) (by omega)
  refine va_sld hx hb hX hbl hbA hW.2.2.2.2.2.2.2 (iv_in (X := (i : Int) + 1) (by omega) (by omega) (by omega)) dLaw_1564 ?_
  rw [show z239.toNatClampNeg = i + 1 from by show z239.toInt.toNat = _; omega]
  refine lc_i (As := [.int (xs (i + 1))]) (rest := []) (n := 1) (d := 11) ⟨hx, hb, hml, hown, hts⟩ (c_X11_laundry l E D Gc xa nn hW.2.1 (xs (i + 1))) wd_1050 wd_1051 wd_1052 wd_1 wd_1053 (by decide +kernel) ⟨Nat.le_of_ble_eq_true rfl, Nat.le_of_ble_eq_true rfl⟩ hW hN hK rfl hl.1 rfl (Nat.le_of_ble_eq_true rfl) dLaw_1565 ⟨by rw [hR1]; omega, by rw [hR2]; omega⟩ (fun r240 H locs hr240 hW => ?_)
  refine lv_pop hx hb dLaw_1568 rfl ?_
  refine lv_aload_n hx hb dLaw_1569 rfl (lv_at hl 1 rfl) ?_
  refine lv_aload_n hx hb dLaw_1570 rfl (lv_at hl 3 rfl) ?_
  refine lv_iload_n hx hb dLaw_1571 rfl (lv_at hl 0 rfl) ?_
  refine lv_iconst (v := 1) hx hb dLaw_1572 (by decide) ?_
  refine lv_iadd hx hb dLaw_1573 ?_
  refine lv_topi (fun z241 ez241 => ?_)
  have tz241 := iv_add (Y := 1) ti (by decide) ez241 (by omega) (by omega)
  refine va_sld hx hb hX hbl hbA hW.2.2.2.2.2.2.2 (iv_in (X := (i : Int) + 1) (by omega) (by omega) (by omega)) dLaw_1574 ?_
  rw [show z241.toNatClampNeg = i + 1 from by show z241.toInt.toNat = _; omega]
  refine lm_i (post := fun _ => True) (As := [.int (xs (i + 1))]) (rest := []) (n := 1) (d := 69) ⟨hx, hb, hml, hown, hts⟩ (c_X12_laundry l E D Gm ma hW.2.2.2.1 (xs (i + 1))) wd_1781 wd_1782 wd_1783 wd_13 wd_1784 (by decide +kernel) ⟨Nat.le_of_ble_eq_true rfl, Nat.le_of_ble_eq_true rfl⟩ hW hN hK rfl hl.1 rfl (Nat.le_of_ble_eq_true rfl) dLaw_1575 ⟨by rw [hR1]; omega, by rw [hR2]; omega⟩ (fun r242 H locs hr242 hW => ?_)
  refine lv_pop hx hb dLaw_1578 rfl ?_
  refine lv_goto (tgt := 2004) hx hb dLaw_1579 (by decide) ?_
  exact W.widen (k := cells + 18) (n := slots + 441) (by omega) (by omega) (kk _ _ _ _ _ X0 hW hT)
set_option maxHeartbeats 4000000 in
set_option maxRecDepth 100000 in
theorem law_c38 {p : Program} {e : Env} {s : State} {m : MethodId} {below : List Frame} {meth : Method} {c : Code} {l : Launch} {b L : Nat} {xs : Nat → Int32} (C0 : lw_At p s m meth c b L xs) {E : Nat → Nat} {D : va_G} {adK adV : Nat → Nat} (X0 : LCx E D adK adV s) {xa ma i : Nat} (hi : i + 7 ≤ L) (hL : L ≤ 3584) {Gc Gm : th_G} {nn : Nat} {H : Heap} {locs : List Loc} (hW : LWs E D s xa ma Gc Gm nn H locs) (hT : TI E Gc xa nn) (hU : UQ Gm 1 ∧ UQ Gm 2 ∧ UQ Gm 11) {cells slots : Nat} (hc1 : cells + 18 ≤ 600000) (hc2 : slots + 441 ≤ 7302250) {ls : Array Slot} (hl : lv_has ls 4 [(3, .int (nI i)), (2, .ref ma), (1, .ref xa), (0, .ref b)]) (kk : ∀ (E : Nat → Nat) (Gc : th_G) (nn : Nat) (H : Heap) (locs : List Loc), LCx E D adK adV s → LWs E D s xa ma Gc Gm nn H locs → TI E Gc xa nn → W p l e room_1 s m #[Value.ref b] below meth c H locs (cells + 18) (slots + 441) (lw_Z below #[Value.ref b] s) (F0 m 2004 ls [])) : W p l e room_1 s m #[Value.ref b] below meth c H locs cells slots (lw_Z below #[Value.ref b] s) (F0 m 1582 ls []) := by
  obtain ⟨hx, hb, hr, hml, hown, hts0, hX, hbl, hlocks, hgv⟩ := id C0
  obtain ⟨hN, hK, hWS, hCL, hAO⟩ := id X0
  have hbA : ¬ LWa s b := Nat.not_le.mpr hbl
  have hts := lw_tb (w := Cond.initialized RX12) wd_13 hts0
  have hR1 : room_1.cells = 600000 := rfl
  have hR2 : room_1.slots = 7302250 := rfl
  have ti : (nI i).toInt = (i : Int) := nI_toInt (by omega)
  refine lv_aload_n hx hb dLaw_1582 rfl (lv_at hl 2 rfl) ?_
  refine lv_aload_n hx hb dLaw_1583 rfl (lv_at hl 3 rfl) ?_
  refine lv_iload_n hx hb dLaw_1584 rfl (lv_at hl 0 rfl) ?_
  refine lv_iconst (v := 1) hx hb dLaw_1585 (by decide) ?_
  refine lv_iadd hx hb dLaw_1586 ?_
  refine lv_topi (fun z243 ez243 => ?_)
  have tz243 := iv_add (Y := 1) ti (by decide) ez243 (by omega) (by omega)
  refine va_sld hx hb hX hbl hbA hW.2.2.2.2.2.2.2 (iv_in (X := (i : Int) + 1) (by omega) (by omega) (by omega)) dLaw_1587 ?_
  rw [show z243.toNatClampNeg = i + 1 from by show z243.toInt.toNat = _; omega]
  refine lv_aload_n hx hb dLaw_1588 rfl (lv_at hl 3 rfl) ?_
  refine lv_iload_n hx hb dLaw_1589 rfl (lv_at hl 0 rfl) ?_
  refine lv_iconst (v := 2) hx hb dLaw_1590 (by decide) ?_
  refine lv_iadd hx hb dLaw_1591 ?_
  refine lv_topi (fun z244 ez244 => ?_)
  have tz244 := iv_add (Y := 2) ti (by decide) ez244 (by omega) (by omega)
  refine va_sld hx hb hX hbl hbA hW.2.2.2.2.2.2.2 (iv_in (X := (i : Int) + 2) (by omega) (by omega) (by omega)) dLaw_1592 ?_
  rw [show z244.toNatClampNeg = i + 2 from by show z244.toInt.toNat = _; omega]
  refine lv_aload_n hx hb dLaw_1593 rfl (lv_at hl 3 rfl) ?_
  refine lv_iload_n hx hb dLaw_1594 rfl (lv_at hl 0 rfl) ?_
  refine lv_iconst (v := 3) hx hb dLaw_1595 (by decide) ?_
  refine lv_iadd hx hb dLaw_1596 ?_
  refine lv_topi (fun z245 ez245 => ?_)
  have tz245 := iv_add (Y := 3) ti (by decide) ez245 (by omega) (by omega)
  refine va_sld hx hb hX hbl hbA hW.2.2.2.2.2.2.2 (iv_in (X := (i : Int) + 3) (by omega) (by omega) (by omega)) dLaw_1597 ?_
  rw [show z245.toNatClampNeg = i + 3 from by show z245.toInt.toNat = _; omega]
  refine lv_aload_n hx hb dLaw_1598 rfl (lv_at hl 3 rfl) ?_
  refine lv_iload_n hx hb dLaw_1599 rfl (lv_at hl 0 rfl) ?_
  refine lv_iconst (v := 4) hx hb dLaw_1600 (by decide) ?_
  refine lv_iadd hx hb dLaw_1601 ?_
  refine lv_topi (fun z246 ez246 => ?_)
  have tz246 := iv_add (Y := 4) ti (by decide) ez246 (by omega) (by omega)
  refine va_sld hx hb hX hbl hbA hW.2.2.2.2.2.2.2 (iv_in (X := (i : Int) + 4) (by omega) (by omega) (by omega)) dLaw_1602 ?_
  rw [show z246.toNatClampNeg = i + 4 from by show z246.toInt.toNat = _; omega]
  refine lc_i (As := [.int (xs (i + 1)), .int (xs (i + 2)), .int (xs (i + 3)), .int (xs (i + 4))]) (rest := []) (n := 4) (d := 8) ⟨hx, hb, hml, hown, hts⟩ (c_X11_lovers l E D Gc xa nn hW.2.1 (xs (i + 1)) (xs (i + 2)) (xs (i + 3)) (xs (i + 4))) wd_1080 wd_1081 wd_1082 wd_1 wd_1083 (by decide +kernel) ⟨Nat.le_of_ble_eq_true rfl, Nat.le_of_ble_eq_true rfl⟩ hW hN hK rfl hl.1 rfl (Nat.le_of_ble_eq_true rfl) dLaw_1603 ⟨by rw [hR1]; omega, by rw [hR2]; omega⟩ (fun r247 H locs hr247 hW => ?_)
  refine lv_pop hx hb dLaw_1606 rfl ?_
  refine lv_aload_n hx hb dLaw_1607 rfl (lv_at hl 1 rfl) ?_
  refine lv_aload_n hx hb dLaw_1608 rfl (lv_at hl 3 rfl) ?_
  refine lv_iload_n hx hb dLaw_1609 rfl (lv_at hl 0 rfl) ?_
  refine lv_iconst (v := 1) hx hb dLaw_1610 (by decide) ?_
  refine lv_iadd hx hb dLaw_1611 ?_
  refine lv_topi (fun z248 ez248 => ?_)
  have tz248 := iv_add (Y := 1) ti (by decide) ez248 (by omega) (by omega)
  refine va_sld hx hb hX hbl hbA hW.2.2.2.2.2.2.2 (iv_in (X := (i : Int) + 1) (by omega) (by omega) (by omega)) dLaw_1612 ?_
  rw [show z248.toNatClampNeg = i + 1 from by show z248.toInt.toNat = _; omega]
  refine lv_aload_n hx hb dLaw_1613 rfl (lv_at hl 3 rfl) ?_
  refine lv_iload_n hx hb dLaw_1614 rfl (lv_at hl 0 rfl) ?_
  refine lv_iconst (v := 2) hx hb dLaw_1615 (by decide) ?_
  refine lv_iadd hx hb dLaw_1616 ?_
  refine lv_topi (fun z249 ez249 => ?_)
  have tz249 := iv_add (Y := 2) ti (by decide) ez249 (by omega) (by omega)
  refine va_sld hx hb hX hbl hbA hW.2.2.2.2.2.2.2 (iv_in (X := (i : Int) + 2) (by omega) (by omega) (by omega)) dLaw_1617 ?_
  rw [show z249.toNatClampNeg = i + 2 from by show z249.toInt.toNat = _; omega]
  refine lv_aload_n hx hb dLaw_1618 rfl (lv_at hl 3 rfl) ?_
  refine lv_iload_n hx hb dLaw_1619 rfl (lv_at hl 0 rfl) ?_
  refine lv_iconst (v := 3) hx hb dLaw_1620 (by decide) ?_
  refine lv_iadd hx hb dLaw_1621 ?_
  refine lv_topi (fun z250 ez250 => ?_)
  have tz250 := iv_add (Y := 3) ti (by decide) ez250 (by omega) (by omega)
  refine va_sld hx hb hX hbl hbA hW.2.2.2.2.2.2.2 (iv_in (X := (i : Int) + 3) (by omega) (by omega) (by omega)) dLaw_1622 ?_
  rw [show z250.toNatClampNeg = i + 3 from by show z250.toInt.toNat = _; omega]
  refine lv_aload_n hx hb dLaw_1623 rfl (lv_at hl 3 rfl) ?_
  refine lv_iload_n hx hb dLaw_1624 rfl (lv_at hl 0 rfl) ?_
  refine lv_iconst (v := 4) hx hb dLaw_1625 (by decide) ?_
  refine lv_iadd hx hb dLaw_1626 ?_
  refine lv_topi (fun z251 ez251 => ?_)
  have tz251 := iv_add (Y := 4) ti (by decide) ez251 (by omega) (by omega)
  refine va_sld hx hb hX hbl hbA hW.2.2.2.2.2.2.2 (iv_in (X := (i : Int) + 4) (by omega) (by omega) (by omega)) dLaw_1627 ?_
  rw [show z251.toNatClampNeg = i + 4 from by show z251.toInt.toNat = _; omega]
  refine lm_i (post := fun _ => True) (As := [.int (xs (i + 1)), .int (xs (i + 2)), .int (xs (i + 3)), .int (xs (i + 4))]) (rest := []) (n := 4) (d := 69) ⟨hx, hb, hml, hown, hts⟩ (c_X12_lovers l E D Gm ma hW.2.2.2.1 (xs (i + 1)) (xs (i + 2)) (xs (i + 3)) (xs (i + 4))) wd_1796 wd_1797 wd_1798 wd_13 wd_1799 (by decide +kernel) ⟨Nat.le_of_ble_eq_true rfl, Nat.le_of_ble_eq_true rfl⟩ hW hN hK rfl hl.1 rfl (Nat.le_of_ble_eq_true rfl) dLaw_1628 ⟨by rw [hR1]; omega, by rw [hR2]; omega⟩ (fun r252 H locs hr252 hW => ?_)
  refine lv_pop hx hb dLaw_1631 rfl ?_
  refine lv_goto (tgt := 2004) hx hb dLaw_1632 (by decide) ?_
  exact W.widen (k := cells + 18) (n := slots + 441) (by omega) (by omega) (kk _ _ _ _ _ X0 hW hT)
