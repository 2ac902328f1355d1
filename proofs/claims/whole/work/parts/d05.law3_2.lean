section LAW3
variable {p : Program} {l : Launch} {e : Env} {s : State} {m : MethodId} {below : List Frame} {meth : Method} {c : Code} {n : Nat} {i : Int} {X : KX} {cJ : ClassId} {kS : Nat → Nat} {b L : Nat} {xs : Nat → Int32}
variable {ad pa pb qa qb ra rb : Nat → Nat} {ha hb : Nat → Nat → Nat} {d rr : Nat → Nat} {oa : Nat}
set_option maxHeartbeats 1000000 in
set_option maxRecDepth 100000 in
theorem st_restoreSnapshot (G : LF p l s m meth c b L xs X cJ kS) (hi : 0 ≤ i ∧ i + 6 ≤ L) (hn : n < 1000) (k : GO p l e s m below meth c b X cJ ad pa pb qa qb ra rb ha hb d rr oa i n 3317) : GO p l e s m below meth c b X cJ ad pa pb qa qb ra rb ha hb d rr oa i (n + 1) 1079 := by
  intro Z g Y H locs ls hS hw hl
  have E := G.1
  refine lv_aload_n E.1 E.2.1 dL_law_1079 rfl (lv_at hl 3 rfl) ?_
  refine lv_aload_n E.1 E.2.1 dL_law_1080 rfl (lv_at hl 1 rfl) ?_
  refine lz_cL (rest := []) G hw (kL_restoreSnapshot l X cJ kS G.2.2.2.2.2.2.2.2.1 ad pa pb qa qb ra rb ha hb Z Y hS oa g) (vx_cwSW 2 E.2.2.2.2 gL_law_L_restoreSnapshot rfl rfl rfl (by decide +kernel) ⟨Nat.le_of_ble_eq_true rfl, Nat.le_of_ble_eq_true rfl⟩) hl.1 rfl rfl (Nat.le_of_ble_eq_true rfl) dL_law_1081 ⟨by show 601024 - 10 * (n + 1) + 1 ≤ 601024; omega, by show 7293034 - 60 * (n + 1) + 6 ≤ 7293034; omega⟩ (fun k9 Z9 g9 H locs hF7 hw => ?_)
  have hkr : 0 ≤ k9 ∧ k9 ≤ 3 := by
    rcases hF7 with ⟨h, -⟩ | ⟨h, -⟩ <;> omega
  refine lv_istore (lv' := (5, .int (iI k9)) :: LVi b ad d oa i) E.1 E.2.1 dL_law_1084 hl (by decide) rfl (fun ls hl => ?_)
  refine lv_aload_n E.1 E.2.1 dL_law_1086 rfl (lv_at hl 3 rfl) ?_
  refine lz_c8 (rest := []) G hw (vX8_restoreSnapshot l X d rr Z Y hS).toE (cwV 0 E.2.2.2.2 gL_law_X8_restoreSnapshot rfl rfl rfl (by decide +kernel) ⟨Nat.le_of_ble_eq_true rfl, Nat.le_of_ble_eq_true rfl⟩) hl.1 rfl rfl (Nat.le_of_ble_eq_true rfl) dL_law_1087 ⟨by show 601024 - 10 * (n + 1) + 1 + 0 ≤ 601024; omega, by show 7293034 - 60 * (n + 1) + 6 + 0 ≤ 7293034; omega⟩ (fun b9 Y9 H locs hF8 hw => ?_)
  exact lz_tail G ⟨dL_law_1090, dL_law_1092, dL_law_1093, dL_law_1096, dL_law_1098, dL_law_1103⟩ ⟨dL_law_1105, dL_law_1108, dL_law_1109, dL_law_1110, dL_law_1111, dL_law_1113, dL_law_1114, dL_law_1115⟩ dL_law_1120 rfl hkr (J_restoreSnapshot hS  hF7 hF8) hw hl k (by omega) (by omega)
set_option maxHeartbeats 1000000 in
set_option maxRecDepth 100000 in
theorem st_scriptErrorKind (G : LF p l s m meth c b L xs X cJ kS) (hi : 0 ≤ i ∧ i + 6 ≤ L) (hn : n < 1000) (k : GO p l e s m below meth c b X cJ ad pa pb qa qb ra rb ha hb d rr oa i n 3317) : GO p l e s m below meth c b X cJ ad pa pb qa qb ra rb ha hb d rr oa i (n + 1) 1123 := by
  intro Z g Y H locs ls hS hw hl
  have E := G.1
  refine lv_aload_n E.1 E.2.1 dL_law_1123 rfl (lv_at hl 3 rfl) ?_
  refine lz_c7 (rest := []) G hw (vX7_scriptErrorKind l X ad pa pb qa qb ra rb ha hb Z Y hS).toE (cwV 0 E.2.2.2.2 gL_law_X7_scriptErrorKind rfl rfl rfl (by decide +kernel) ⟨Nat.le_of_ble_eq_true rfl, Nat.le_of_ble_eq_true rfl⟩) hl.1 rfl rfl (Nat.le_of_ble_eq_true rfl) dL_law_1124 ⟨by show 601024 - 10 * (n + 1) + 0 ≤ 601024; omega, by show 7293034 - 60 * (n + 1) + 0 ≤ 7293034; omega⟩ (fun z9 Z9 H locs hF7 hw => ?_)
  refine lv_aload_n E.1 E.2.1 dL_law_1127 rfl (lv_at hl 2 rfl) ?_
  refine lz_c8 (rest := [.int (iI z9)]) G hw (vX8_scriptErrorKind l X d rr Z Y hS).toE (cwV 0 E.2.2.2.2 gL_law_X8_scriptErrorKind rfl rfl rfl (by decide +kernel) ⟨Nat.le_of_ble_eq_true rfl, Nat.le_of_ble_eq_true rfl⟩) hl.1 rfl rfl (Nat.le_of_ble_eq_true rfl) dL_law_1128 ⟨by show 601024 - 10 * (n + 1) + 0 + 0 ≤ 601024; omega, by show 7293034 - 60 * (n + 1) + 0 + 0 ≤ 7293034; omega⟩ (fun b9 Y9 H locs hF8 hw => ?_)
  obtain ⟨hJ, hS9⟩ := J_scriptErrorKind hS  hF7 hF8
  refine lv_icmp_eq (tgt := 3317) E.1 E.2.1 dL_law_1131 rfl (fun _ => ?_) (fun q => absurd (by rw [hJ]) q)
  exact lz_on k hS9 hw hl (by omega) (by omega)
set_option maxHeartbeats 1000000 in
set_option maxRecDepth 100000 in
theorem st_scriptErrorOffset (G : LF p l s m meth c b L xs X cJ kS) (hi : 0 ≤ i ∧ i + 6 ≤ L) (hn : n < 1000) (k : GO p l e s m below meth c b X cJ ad pa pb qa qb ra rb ha hb d rr oa i n 3317) : GO p l e s m below meth c b X cJ ad pa pb qa qb ra rb ha hb d rr oa i (n + 1) 1136 := by
  intro Z g Y H locs ls hS hw hl
  have E := G.1
  refine lv_aload_n E.1 E.2.1 dL_law_1136 rfl (lv_at hl 3 rfl) ?_
  refine lz_c7 (rest := []) G hw (vX7_scriptErrorOffset l X ad pa pb qa qb ra rb ha hb Z Y hS).toE (cwV 0 E.2.2.2.2 gL_law_X7_scriptErrorOffset rfl rfl rfl (by decide +kernel) ⟨Nat.le_of_ble_eq_true rfl, Nat.le_of_ble_eq_true rfl⟩) hl.1 rfl rfl (Nat.le_of_ble_eq_true rfl) dL_law_1137 ⟨by show 601024 - 10 * (n + 1) + 0 ≤ 601024; omega, by show 7293034 - 60 * (n + 1) + 0 ≤ 7293034; omega⟩ (fun z9 Z9 H locs hF7 hw => ?_)
  refine lv_aload_n E.1 E.2.1 dL_law_1140 rfl (lv_at hl 2 rfl) ?_
  refine lz_c8 (rest := [.int (iI z9)]) G hw (vX8_scriptErrorOffset l X d rr Z Y hS).toE (cwV 0 E.2.2.2.2 gL_law_X8_scriptErrorOffset rfl rfl rfl (by decide +kernel) ⟨Nat.le_of_ble_eq_true rfl, Nat.le_of_ble_eq_true rfl⟩) hl.1 rfl rfl (Nat.le_of_ble_eq_true rfl) dL_law_1141 ⟨by show 601024 - 10 * (n + 1) + 0 + 0 ≤ 601024; omega, by show 7293034 - 60 * (n + 1) + 0 + 0 ≤ 7293034; omega⟩ (fun b9 Y9 H locs hF8 hw => ?_)
  obtain ⟨hJ, hS9⟩ := J_scriptErrorOffset hS  hF7 hF8
  refine lv_icmp_eq (tgt := 3317) E.1 E.2.1 dL_law_1144 rfl (fun _ => ?_) (fun q => absurd (by rw [hJ]) q)
  exact lz_on k hS9 hw hl (by omega) (by omega)
set_option maxHeartbeats 1000000 in
set_option maxRecDepth 100000 in
theorem st_loanCount (G : LF p l s m meth c b L xs X cJ kS) (hi : 0 ≤ i ∧ i + 6 ≤ L) (hn : n < 1000) (k : GO p l e s m below meth c b X cJ ad pa pb qa qb ra rb ha hb d rr oa i n 3317) : GO p l e s m below meth c b X cJ ad pa pb qa qb ra rb ha hb d rr oa i (n + 1) 1149 := by
  intro Z g Y H locs ls hS hw hl
  have E := G.1
  refine lv_aload_n E.1 E.2.1 dL_law_1149 rfl (lv_at hl 3 rfl) ?_
  refine lz_c7 (rest := []) G hw (vX7_loanCount l X ad pa pb qa qb ra rb ha hb Z Y hS).toE (cwV 0 E.2.2.2.2 gL_law_X7_loanCount rfl rfl rfl (by decide +kernel) ⟨Nat.le_of_ble_eq_true rfl, Nat.le_of_ble_eq_true rfl⟩) hl.1 rfl rfl (Nat.le_of_ble_eq_true rfl) dL_law_1150 ⟨by show 601024 - 10 * (n + 1) + 0 ≤ 601024; omega, by show 7293034 - 60 * (n + 1) + 0 ≤ 7293034; omega⟩ (fun z9 Z9 H locs hF7 hw => ?_)
  refine lv_aload_n E.1 E.2.1 dL_law_1153 rfl (lv_at hl 2 rfl) ?_
  refine lz_c8 (rest := [.int (iI z9)]) G hw (vX8_loanCount l X d rr Z Y hS).toE (cwV 0 E.2.2.2.2 gL_law_X8_loanCount rfl rfl rfl (by decide +kernel) ⟨Nat.le_of_ble_eq_true rfl, Nat.le_of_ble_eq_true rfl⟩) hl.1 rfl rfl (Nat.le_of_ble_eq_true rfl) dL_law_1154 ⟨by show 601024 - 10 * (n + 1) + 0 + 0 ≤ 601024; omega, by show 7293034 - 60 * (n + 1) + 0 + 0 ≤ 7293034; omega⟩ (fun b9 Y9 H locs hF8 hw => ?_)
  obtain ⟨hJ, hS9⟩ := J_loanCount hS  hF7 hF8
  refine lv_icmp_eq (tgt := 3317) E.1 E.2.1 dL_law_1157 rfl (fun _ => ?_) (fun q => absurd (by rw [hJ]) q)
  exact lz_on k hS9 hw hl (by omega) (by omega)
set_option maxHeartbeats 1000000 in
set_option maxRecDepth 100000 in
theorem st_openCount (G : LF p l s m meth c b L xs X cJ kS) (hi : 0 ≤ i ∧ i + 6 ≤ L) (hn : n < 1000) (k : GO p l e s m below meth c b X cJ ad pa pb qa qb ra rb ha hb d rr oa i n 3317) : GO p l e s m below meth c b X cJ ad pa pb qa qb ra rb ha hb d rr oa i (n + 1) 1162 := by
  intro Z g Y H locs ls hS hw hl
  have E := G.1
  refine lv_aload_n E.1 E.2.1 dL_law_1162 rfl (lv_at hl 3 rfl) ?_
  refine lz_c7 (rest := []) G hw (vX7_openCount l X ad pa pb qa qb ra rb ha hb Z Y hS).toE (cwV 0 E.2.2.2.2 gL_law_X7_openCount rfl rfl rfl (by decide +kernel) ⟨Nat.le_of_ble_eq_true rfl, Nat.le_of_ble_eq_true rfl⟩) hl.1 rfl rfl (Nat.le_of_ble_eq_true rfl) dL_law_1163 ⟨by show 601024 - 10 * (n + 1) + 0 ≤ 601024; omega, by show 7293034 - 60 * (n + 1) + 0 ≤ 7293034; omega⟩ (fun z9 Z9 H locs hF7 hw => ?_)
  refine lv_aload_n E.1 E.2.1 dL_law_1166 rfl (lv_at hl 2 rfl) ?_
  refine lz_c8 (rest := [.int (iI z9)]) G hw (vX8_openCount l X d rr Z Y hS).toE (cwV 0 E.2.2.2.2 gL_law_X8_openCount rfl rfl rfl (by decide +kernel) ⟨Nat.le_of_ble_eq_true rfl, Nat.le_of_ble_eq_true rfl⟩) hl.1 rfl rfl (Nat.le_of_ble_eq_true rfl) dL_law_1167 ⟨by show 601024 - 10 * (n + 1) + 0 + 0 ≤ 601024; omega, by show 7293034 - 60 * (n + 1) + 0 + 0 ≤ 7293034; omega⟩ (fun b9 Y9 H locs hF8 hw => ?_)
  obtain ⟨hJ, hS9⟩ := J_openCount hS  hF7 hF8
  refine lv_icmp_eq (tgt := 3317) E.1 E.2.1 dL_law_1170 rfl (fun _ => ?_) (fun q => absurd (by rw [hJ]) q)
  exact lz_on k hS9 hw hl (by omega) (by omega)
set_option maxHeartbeats 1000000 in
set_option maxRecDepth 100000 in
theorem st_isOpen (G : LF p l s m meth c b L xs X cJ kS) (hi : 0 ≤ i ∧ i + 6 ≤ L) (hn : n < 1000) (k : GO p l e s m below meth c b X cJ ad pa pb qa qb ra rb ha hb d rr oa i n 3317) : GO p l e s m below meth c b X cJ ad pa pb qa qb ra rb ha hb d rr oa i (n + 1) 1175 := by
  intro Z g Y H locs ls hS hw hl
  have E := G.1
  refine lv_aload_n E.1 E.2.1 dL_law_1175 rfl (lv_at hl 3 rfl) ?_
  refine lz_rd (i := i) (j := 1) G hw (by omega) (lv_at hl 4 rfl) (lv_at hl 0 rfl) dL_law_1176 dL_law_1177 dL_law_1179 dL_law_1180 dL_law_1181 ?_
  refine lv_aload_n E.1 E.2.1 dL_law_1182 rfl (lv_at hl 1 rfl) ?_
  refine lz_cL (rest := []) G hw (kL_isOpen l X cJ kS G.2.2.2.2.2.2.2.2.1 ad pa pb qa qb ra rb ha hb Z Y hS (xz xs (i + 1)) (i32_of _) oa g) (vx_cwSW 3 E.2.2.2.2 gL_law_L_isOpen rfl rfl rfl (by decide +kernel) ⟨Nat.le_of_ble_eq_true rfl, Nat.le_of_ble_eq_true rfl⟩) hl.1 rfl rfl (Nat.le_of_ble_eq_true rfl) dL_law_1183 ⟨by show 601024 - 10 * (n + 1) + 1 ≤ 601024; omega, by show 7293034 - 60 * (n + 1) + 6 ≤ 7293034; omega⟩ (fun k9 Z9 g9 H locs hF7 hw => ?_)
  have hkr : 0 ≤ k9 ∧ k9 ≤ 3 := by
    rcases hF7 with ⟨h, -⟩ | ⟨h, -⟩ <;> omega
  refine lv_istore (lv' := (5, .int (iI k9)) :: LVi b ad d oa i) E.1 E.2.1 dL_law_1186 hl (by decide) rfl (fun ls hl => ?_)
  refine lv_aload_n E.1 E.2.1 dL_law_1188 rfl (lv_at hl 3 rfl) ?_
  refine lz_rd (i := i) (j := 1) G hw (by omega) (lv_at hl 5 rfl) (lv_at hl 1 rfl) dL_law_1189 dL_law_1190 dL_law_1192 dL_law_1193 dL_law_1194 ?_
  refine lz_c8 (rest := []) G hw (vX8_isOpen l X d rr Z Y hS (xz xs (i + 1)) (i32_of _)).toE (cwV 1 E.2.2.2.2 gL_law_X8_isOpen rfl rfl rfl (by decide +kernel) ⟨Nat.le_of_ble_eq_true rfl, Nat.le_of_ble_eq_true rfl⟩) hl.1 rfl rfl (Nat.le_of_ble_eq_true rfl) dL_law_1195 ⟨by show 601024 - 10 * (n + 1) + 1 + 0 ≤ 601024; omega, by show 7293034 - 60 * (n + 1) + 6 + 0 ≤ 7293034; omega⟩ (fun b9 Y9 H locs hF8 hw => ?_)
  exact lz_tailB G ⟨dL_law_1198, dL_law_1200, dL_law_1201, dL_law_1204, dL_law_1206, dL_law_1211⟩ ⟨dL_law_1213, dL_law_1216, dL_law_1217, dL_law_1218, dL_law_1219, dL_law_1221, dL_law_1224, dL_law_1225, dL_law_1228, dL_law_1229, dL_law_1230⟩ dL_law_1235 rfl hkr (J_isOpen hS  hF7 hF8) hw hl k (by omega) (by omega)
set_option maxHeartbeats 1000000 in
set_option maxRecDepth 100000 in
theorem st_principal (G : LF p l s m meth c b L xs X cJ kS) (hi : 0 ≤ i ∧ i + 6 ≤ L) (hn : n < 1000) (k : GO p l e s m below meth c b X cJ ad pa pb qa qb ra rb ha hb d rr oa i n 3317) : GO p l e s m below meth c b X cJ ad pa pb qa qb ra rb ha hb d rr oa i (n + 1) 1238 := by
  intro Z g Y H locs ls hS hw hl
  have E := G.1
  refine lv_aload_n E.1 E.2.1 dL_law_1238 rfl (lv_at hl 3 rfl) ?_
  refine lz_rd (i := i) (j := 1) G hw (by omega) (lv_at hl 4 rfl) (lv_at hl 0 rfl) dL_law_1239 dL_law_1240 dL_law_1242 dL_law_1243 dL_law_1244 ?_
  refine lv_aload_n E.1 E.2.1 dL_law_1245 rfl (lv_at hl 1 rfl) ?_
  refine lz_cL (rest := []) G hw (kL_principal l X cJ kS G.2.2.2.2.2.2.2.2.1 ad pa pb qa qb ra rb ha hb Z Y hS (xz xs (i + 1)) (i32_of _) oa g) (vx_cwSW 3 E.2.2.2.2 gL_law_L_principal rfl rfl rfl (by decide +kernel) ⟨Nat.le_of_ble_eq_true rfl, Nat.le_of_ble_eq_true rfl⟩) hl.1 rfl rfl (Nat.le_of_ble_eq_true rfl) dL_law_1246 ⟨by show 601024 - 10 * (n + 1) + 1 ≤ 601024; omega, by show 7293034 - 60 * (n + 1) + 6 ≤ 7293034; omega⟩ (fun k9 Z9 g9 H locs hF7 hw => ?_)
  have hkr : 0 ≤ k9 ∧ k9 ≤ 3 := by
    rcases hF7 with ⟨h, -⟩ | ⟨h, -⟩ <;> omega
  refine lv_istore (lv' := (5, .int (iI k9)) :: LVi b ad d oa i) E.1 E.2.1 dL_law_1249 hl (by decide) rfl (fun ls hl => ?_)
  refine lv_aload_n E.1 E.2.1 dL_law_1251 rfl (lv_at hl 3 rfl) ?_
  refine lz_rd (i := i) (j := 1) G hw (by omega) (lv_at hl 5 rfl) (lv_at hl 1 rfl) dL_law_1252 dL_law_1253 dL_law_1255 dL_law_1256 dL_law_1257 ?_
  refine lz_c8 (rest := []) G hw (vX8_principal l X d rr Z Y hS (xz xs (i + 1)) (i32_of _)).toE (cwV 1 E.2.2.2.2 gL_law_X8_principal rfl rfl rfl (by decide +kernel) ⟨Nat.le_of_ble_eq_true rfl, Nat.le_of_ble_eq_true rfl⟩) hl.1 rfl rfl (Nat.le_of_ble_eq_true rfl) dL_law_1258 ⟨by show 601024 - 10 * (n + 1) + 1 + 0 ≤ 601024; omega, by show 7293034 - 60 * (n + 1) + 6 + 0 ≤ 7293034; omega⟩ (fun b9 Y9 H locs hF8 hw => ?_)
  exact lz_tail G ⟨dL_law_1261, dL_law_1263, dL_law_1264, dL_law_1267, dL_law_1269, dL_law_1274⟩ ⟨dL_law_1276, dL_law_1279, dL_law_1280, dL_law_1281, dL_law_1282, dL_law_1284, dL_law_1285, dL_law_1286⟩ dL_law_1291 rfl hkr (J_principal hS  hF7 hF8) hw hl k (by omega) (by omega)
set_option maxHeartbeats 1000000 in
set_option maxRecDepth 100000 in
theorem st_balance (G : LF p l s m meth c b L xs X cJ kS) (hi : 0 ≤ i ∧ i + 6 ≤ L) (hn : n < 1000) (k : GO p l e s m below meth c b X cJ ad pa pb qa qb ra rb ha hb d rr oa i n 3317) : GO p l e s m below meth c b X cJ ad pa pb qa qb ra rb ha hb d rr oa i (n + 1) 1294 := by
  intro Z g Y H locs ls hS hw hl
  have E := G.1
  refine lv_aload_n E.1 E.2.1 dL_law_1294 rfl (lv_at hl 3 rfl) ?_
  refine lz_rd (i := i) (j := 1) G hw (by omega) (lv_at hl 4 rfl) (lv_at hl 0 rfl) dL_law_1295 dL_law_1296 dL_law_1298 dL_law_1299 dL_law_1300 ?_
  refine lv_aload_n E.1 E.2.1 dL_law_1301 rfl (lv_at hl 1 rfl) ?_
  refine lz_cL (rest := []) G hw (kL_balance l X cJ kS G.2.2.2.2.2.2.2.2.1 ad pa pb qa qb ra rb ha hb Z Y hS (xz xs (i + 1)) (i32_of _) oa g) (vx_cwSW 3 E.2.2.2.2 gL_law_L_balance rfl rfl rfl (by decide +kernel) ⟨Nat.le_of_ble_eq_true rfl, Nat.le_of_ble_eq_true rfl⟩) hl.1 rfl rfl (Nat.le_of_ble_eq_true rfl) dL_law_1302 ⟨by show 601024 - 10 * (n + 1) + 1 ≤ 601024; omega, by show 7293034 - 60 * (n + 1) + 6 ≤ 7293034; omega⟩ (fun k9 Z9 g9 H locs hF7 hw => ?_)
  have hkr : 0 ≤ k9 ∧ k9 ≤ 3 := by
    rcases hF7 with ⟨h, -⟩ | ⟨h, -⟩ <;> omega
  refine lv_istore (lv' := (5, .int (iI k9)) :: LVi b ad d oa i) E.1 E.2.1 dL_law_1305 hl (by decide) rfl (fun ls hl => ?_)
  refine lv_aload_n E.1 E.2.1 dL_law_1307 rfl (lv_at hl 3 rfl) ?_
  refine lz_rd (i := i) (j := 1) G hw (by omega) (lv_at hl 5 rfl) (lv_at hl 1 rfl) dL_law_1308 dL_law_1309 dL_law_1311 dL_law_1312 dL_law_1313 ?_
  refine lz_c8 (rest := []) G hw (vX8_balance l X d rr Z Y hS (xz xs (i + 1)) (i32_of _)).toE (cwV 1 E.2.2.2.2 gL_law_X8_balance rfl rfl rfl (by decide +kernel) ⟨Nat.le_of_ble_eq_true rfl, Nat.le_of_ble_eq_true rfl⟩) hl.1 rfl rfl (Nat.le_of_ble_eq_true rfl) dL_law_1314 ⟨by show 601024 - 10 * (n + 1) + 1 + 0 ≤ 601024; omega, by show 7293034 - 60 * (n + 1) + 6 + 0 ≤ 7293034; omega⟩ (fun b9 Y9 H locs hF8 hw => ?_)
  exact lz_tail G ⟨dL_law_1317, dL_law_1319, dL_law_1320, dL_law_1323, dL_law_1325, dL_law_1330⟩ ⟨dL_law_1332, dL_law_1335, dL_law_1336, dL_law_1337, dL_law_1338, dL_law_1340, dL_law_1341, dL_law_1342⟩ dL_law_1347 rfl hkr (J_balance hS  hF7 hF8) hw hl k (by omega) (by omega)
end LAW3
