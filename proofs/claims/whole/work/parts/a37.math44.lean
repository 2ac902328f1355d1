/-! the first script's run along the machine -/
theorem wdM_b {T : Nat → Int} {s x : Int} {t : List Int} (h : ((List.range x.toNat).all fun k => decide (T (s.toNat + k) = t.getD k 0)) = true) : wdM T s t x := fun k hk => of_decide_eq_true (List.all_eq_true.mp h k (List.mem_range.mpr hk))
theorem exNc {T : Nat → Int} {n p lo hi v e : Int} (hk : toK T n p = 2) (hg : toG T n p = v) (he : toE T n p = e) (h : lo ≤ v ∧ v ≤ hi) : exN T n lo hi p = .ok (v, e) := by
  rw [exN_y hk (by omega), hg, he]
theorem exSc {T : Nat → Int} {n p x b e : Int} (hk : toK T n p = 3) (hb : toB T n p = b) (he : toE T n p = e) (hx : T b.toNat = x) : exS T n x p = .ok (b, e) := by
  rw [exS_y ⟨hk, by rw [hb]; exact hx⟩, hb, he]
theorem prm1c {T : Nat → Int} {n w0 p v1 p1 v2 p2 v3 p3 s q : Int} (h1 : exN T n 1 9999999 p = .ok (v1, p1)) (h2 : exN T n 0 3000 p1 = .ok (v2, p2)) (h3 : exN T n 1 120 p2 = .ok (v3, p3)) (h4 : exS T n 59 p3 = .ok (s, q)) : prm T n 1 w0 p = .ok (v1, v2, v3, 0, s, q) := by
  rw [prm_1, h1]
  show (exN T n 0 3000 p1).bind _ = _
  rw [h2]
  show (exN T n 1 120 p2).bind _ = _
  rw [h3]
  show (exS T n 59 p3).bind _ = _
  rw [h4]; rfl
theorem prm3c {T : Nat → Int} {n w0 p s q : Int} (h4 : exS T n 59 p = .ok (s, q)) : prm T n 3 w0 p = .ok (0, 0, 0, 0, s, q) := by rw [prm_3, h4]; rfl
theorem prm4c {T : Nat → Int} {n w0 p v1 p1 v2 p2 s q : Int} (h1 : exN T n 0 (w0 - 1) p = .ok (v1, p1)) (h2 : exN T n 1 9999999 p1 = .ok (v2, p2)) (hk : toK T n p2 = 3) (h4 : exS T n 59 p2 = .ok (s, q)) : prm T n 4 w0 p = .ok (v1, v2, 0, 0, s, q) := by
  rw [prm_4, h1]
  show (exN T n 1 9999999 p1).bind _ = _
  rw [h2]
  show (exK T n p2).bind _ = _
  have e : exK T n p2 = (exS T n 59 p2).bind (fun e => .ok (0, e.1, e.2)) := if_neg (fun h => by have := h.1; omega)
  rw [e, h4]; rfl
theorem prm5c {T : Nat → Int} {n w0 p v1 p1 s q : Int} (h1 : exN T n 0 (w0 - 1) p = .ok (v1, p1)) (h4 : exS T n 59 p1 = .ok (s, q)) : prm T n 5 w0 p = .ok (v1, 0, 0, 0, s, q) := by
  rw [prm_5, h1]
  show (exS T n 59 p1).bind _ = _
  rw [h4]; rfl
theorem cwc {T : Nat → Int} {n p b e : Int} (i : Nat) (hi : 1 ≤ i ∧ i ≤ 8) (hk : toK T n p = 1) (hb : toB T n p = b) (he : toE T n p = e) (hl : e - b = (lo_tx i).length) (hw : wdM T b (lo_tx i) (lo_tx i).length) : cw T n p = i :=
  cw_f (Or.inl ⟨by omega, by omega, hk, by rw [hb, he, Int.toNat_natCast]; exact ⟨hl, hw⟩⟩)
theorem tk0_b : toB tx20 87 0 = 0 := by decide +kernel
theorem tk0_e : toE tx20 87 0 = 5 := by decide +kernel
theorem tk0_k : toK tx20 87 0 = 1 := by decide +kernel
theorem tk5_b : toB tx20 87 5 = 5 := by decide +kernel
theorem tk5_e : toE tx20 87 5 = 6 := by decide +kernel
theorem tk5_k : toK tx20 87 5 = 3 := by decide +kernel
theorem tx20_L : exL tx20 87 = .ok (5, 6) := by
  rw [exL_y (T := tx20) (n := 87) ⟨tk0_k, by rw [tk0_b, tk0_e]; exact ⟨by decide +kernel, wdM_b (by decide +kernel)⟩⟩, tk0_e]
  exact exSc tk5_k tk5_b tk5_e (by decide +kernel)
theorem tk6_b : toB tx20 87 6 = 7 := by decide +kernel
theorem tk6_e : toE tx20 87 6 = 11 := by decide +kernel
theorem tk6_k : toK tx20 87 6 = 1 := by decide +kernel
theorem cw_p6 : cw tx20 87 6 = 1 := cwc 1 (by omega) tk6_k tk6_b tk6_e (by decide +kernel) (wdM_b (by decide +kernel))
theorem tk11_b : toB tx20 87 11 = 12 := by decide +kernel
theorem tk11_e : toE tx20 87 11 = 18 := by decide +kernel
theorem tk11_k : toK tx20 87 11 = 2 := by decide +kernel
theorem tk11_g : toG tx20 87 11 = 120000 := by decide +kernel
theorem tk18_b : toB tx20 87 18 = 19 := by decide +kernel
theorem tk18_e : toE tx20 87 18 = 22 := by decide +kernel
theorem tk18_k : toK tx20 87 18 = 2 := by decide +kernel
theorem tk18_g : toG tx20 87 18 = 600 := by decide +kernel
theorem tk22_b : toB tx20 87 22 = 23 := by decide +kernel
theorem tk22_e : toE tx20 87 22 = 25 := by decide +kernel
theorem tk22_k : toK tx20 87 22 = 2 := by decide +kernel
theorem tk22_g : toG tx20 87 22 = 12 := by decide +kernel
theorem tk25_b : toB tx20 87 25 = 25 := by decide +kernel
theorem tk25_e : toE tx20 87 25 = 26 := by decide +kernel
theorem tk25_k : toK tx20 87 25 = 3 := by decide +kernel
theorem tk26_b : toB tx20 87 26 = 27 := by decide +kernel
theorem tk26_e : toE tx20 87 26 = 31 := by decide +kernel
theorem tk26_k : toK tx20 87 26 = 1 := by decide +kernel
theorem cw_p26 : cw tx20 87 26 = 1 := cwc 1 (by omega) tk26_k tk26_b tk26_e (by decide +kernel) (wdM_b (by decide +kernel))
theorem tk31_b : toB tx20 87 31 = 32 := by decide +kernel
theorem tk31_e : toE tx20 87 31 = 37 := by decide +kernel
theorem tk31_k : toK tx20 87 31 = 2 := by decide +kernel
theorem tk31_g : toG tx20 87 31 = 50000 := by decide +kernel
theorem tk37_b : toB tx20 87 37 = 38 := by decide +kernel
theorem tk37_e : toE tx20 87 37 = 42 := by decide +kernel
theorem tk37_k : toK tx20 87 37 = 2 := by decide +kernel
theorem tk37_g : toG tx20 87 37 = 1200 := by decide +kernel
theorem tk42_b : toB tx20 87 42 = 43 := by decide +kernel
theorem tk42_e : toE tx20 87 42 = 44 := by decide +kernel
theorem tk42_k : toK tx20 87 42 = 2 := by decide +kernel
theorem tk42_g : toG tx20 87 42 = 6 := by decide +kernel
theorem tk44_b : toB tx20 87 44 = 44 := by decide +kernel
theorem tk44_e : toE tx20 87 44 = 45 := by decide +kernel
theorem tk44_k : toK tx20 87 44 = 3 := by decide +kernel
theorem tk45_b : toB tx20 87 45 = 46 := by decide +kernel
theorem tk45_e : toE tx20 87 45 = 50 := by decide +kernel
theorem tk45_k : toK tx20 87 45 = 1 := by decide +kernel
theorem cw_p45 : cw tx20 87 45 = 1 := cwc 1 (by omega) tk45_k tk45_b tk45_e (by decide +kernel) (wdM_b (by decide +kernel))
theorem tk50_b : toB tx20 87 50 = 51 := by decide +kernel
theorem tk50_e : toE tx20 87 50 = 54 := by decide +kernel
theorem tk50_k : toK tx20 87 50 = 2 := by decide +kernel
theorem tk50_g : toG tx20 87 50 = 999 := by decide +kernel
theorem tk54_b : toB tx20 87 54 = 55 := by decide +kernel
theorem tk54_e : toE tx20 87 54 = 56 := by decide +kernel
theorem tk54_k : toK tx20 87 54 = 2 := by decide +kernel
theorem tk54_g : toG tx20 87 54 = 0 := by decide +kernel
theorem tk56_b : toB tx20 87 56 = 57 := by decide +kernel
theorem tk56_e : toE tx20 87 56 = 58 := by decide +kernel
theorem tk56_k : toK tx20 87 56 = 2 := by decide +kernel
theorem tk56_g : toG tx20 87 56 = 4 := by decide +kernel
theorem tk58_b : toB tx20 87 58 = 58 := by decide +kernel
theorem tk58_e : toE tx20 87 58 = 59 := by decide +kernel
theorem tk58_k : toK tx20 87 58 = 3 := by decide +kernel
theorem tk59_b : toB tx20 87 59 = 60 := by decide +kernel
theorem tk59_e : toE tx20 87 59 = 63 := by decide +kernel
theorem tk59_k : toK tx20 87 59 = 1 := by decide +kernel
theorem cw_p59 : cw tx20 87 59 = 3 := cwc 3 (by omega) tk59_k tk59_b tk59_e (by decide +kernel) (wdM_b (by decide +kernel))
theorem tk63_b : toB tx20 87 63 = 63 := by decide +kernel
theorem tk63_e : toE tx20 87 63 = 64 := by decide +kernel
theorem tk63_k : toK tx20 87 63 = 3 := by decide +kernel
theorem tk64_b : toB tx20 87 64 = 65 := by decide +kernel
theorem tk64_e : toE tx20 87 64 = 70 := by decide +kernel
theorem tk64_k : toK tx20 87 64 = 1 := by decide +kernel
theorem cw_p64 : cw tx20 87 64 = 4 := cwc 4 (by omega) tk64_k tk64_b tk64_e (by decide +kernel) (wdM_b (by decide +kernel))
theorem tk70_b : toB tx20 87 70 = 71 := by decide +kernel
theorem tk70_e : toE tx20 87 70 = 72 := by decide +kernel
theorem tk70_k : toK tx20 87 70 = 2 := by decide +kernel
theorem tk70_g : toG tx20 87 70 = 0 := by decide +kernel
theorem tk72_b : toB tx20 87 72 = 73 := by decide +kernel
theorem tk72_e : toE tx20 87 72 = 78 := by decide +kernel
theorem tk72_k : toK tx20 87 72 = 2 := by decide +kernel
theorem tk72_g : toG tx20 87 72 = 20000 := by decide +kernel
theorem tk78_b : toB tx20 87 78 = 78 := by decide +kernel
theorem tk78_e : toE tx20 87 78 = 79 := by decide +kernel
theorem tk78_k : toK tx20 87 78 = 3 := by decide +kernel
theorem tk79_b : toB tx20 87 79 = 80 := by decide +kernel
theorem tk79_e : toE tx20 87 79 = 84 := by decide +kernel
theorem tk79_k : toK tx20 87 79 = 1 := by decide +kernel
theorem cw_p79 : cw tx20 87 79 = 5 := cwc 5 (by omega) tk79_k tk79_b tk79_e (by decide +kernel) (wdM_b (by decide +kernel))
theorem tk84_b : toB tx20 87 84 = 85 := by decide +kernel
theorem tk84_e : toE tx20 87 84 = 86 := by decide +kernel
theorem tk84_k : toK tx20 87 84 = 2 := by decide +kernel
theorem tk84_g : toG tx20 87 84 = 1 := by decide +kernel
theorem tk86_b : toB tx20 87 86 = 86 := by decide +kernel
theorem tk86_e : toE tx20 87 86 = 87 := by decide +kernel
theorem tk86_k : toK tx20 87 86 = 3 := by decide +kernel
theorem tk87_b : toB tx20 87 87 = 87 := by decide +kernel
theorem tk87_e : toE tx20 87 87 = 87 := by decide +kernel
theorem tk87_k : toK tx20 87 87 = 0 := by decide +kernel
theorem ex_s0 : exe 1 (120000, 600, 12, 0, 25, 26) (fun _ => 0) = some iW1 := exe_1.trans (if_pos (by show (0:Int) < 6; omega))
theorem ex_s1 : exe 1 (50000, 1200, 6, 0, 44, 45) iW1 = some iW2 := exe_1.trans (if_pos (by rw [ini_1.2]; omega))
theorem ex_s2 : exe 1 (999, 0, 4, 0, 58, 59) iW2 = some iW3 := exe_1.trans (if_pos (by rw [ini_2.2]; omega))
theorem ex_s3 : exe 3 (0, 0, 0, 0, 63, 64) iW3 = some iWA := exe_3
theorem ex_s4 : exe 4 (0, 20000, 0, 0, 78, 79) iWA = some iWB := exe_4.trans (if_pos ⟨by show 0 < wOf iWA 0 1; have := ini_A.2.2.1; omega, ini_A.2.2.1⟩)
theorem ex_s5 : exe 5 (1, 0, 0, 0, 86, 87) iWB = some iWC := exe_5.trans (if_pos ⟨ini_B.2.2.1, ini_B.2.2.2.1, ini_B.2.2.2.2⟩)
theorem tx20_run (f g h : Nat → Int) : RCH tx20 87 0 (scS tx20 87 f g h) (sFin iWC) := by
  rw [scS_o tx20_L]
  refine (RCH.one frz_0 (stp_cmdY (y := (120000, 600, 12, 0, 25, 26)) (v := iW1) cw_p6 (by omega) (by omega) (by rw [tk6_e]; exact prm1c (exNc tk11_k tk11_g tk11_e (by omega)) (exNc tk18_k tk18_g tk18_e (by omega)) (exNc tk22_k tk22_g tk22_e (by omega)) (exSc tk25_k tk25_b tk25_e (by decide +kernel))) ex_s0)).tr ?_
  refine (RCH.one frz_0 (stp_cmdY (y := (50000, 1200, 6, 0, 44, 45)) (v := iW2) cw_p26 (by omega) (by omega) (by rw [tk26_e]; exact prm1c (exNc tk31_k tk31_g tk31_e (by omega)) (exNc tk37_k tk37_g tk37_e (by omega)) (exNc tk42_k tk42_g tk42_e (by omega)) (exSc tk44_k tk44_b tk44_e (by decide +kernel))) ex_s1)).tr ?_
  refine (RCH.one frz_0 (stp_cmdY (y := (999, 0, 4, 0, 58, 59)) (v := iW3) cw_p45 (by omega) (by omega) (by rw [tk45_e]; exact prm1c (exNc tk50_k tk50_g tk50_e (by omega)) (exNc tk54_k tk54_g tk54_e (by omega)) (exNc tk56_k tk56_g tk56_e (by omega)) (exSc tk58_k tk58_b tk58_e (by decide +kernel))) ex_s2)).tr ?_
  refine (RCH.one frz_0 (stp_cmdY (y := (0, 0, 0, 0, 63, 64)) (v := iWA) cw_p59 (by omega) (by omega) (by rw [tk59_e]; exact prm3c (exSc tk63_k tk63_b tk63_e (by decide +kernel))) ex_s3)).tr ?_
  refine (RCH.one frz_0 (stp_cmdY (y := (0, 20000, 0, 0, 78, 79)) (v := iWB) cw_p64 (by omega) (by omega) (by rw [tk64_e]; exact prm4c (by rw [ini_A.2.1]; exact exNc tk70_k tk70_g tk70_e (by omega)) (exNc tk72_k tk72_g tk72_e (by omega)) tk78_k (exSc tk78_k tk78_b tk78_e (by decide +kernel))) ex_s4)).tr ?_
  refine (RCH.one frz_0 (stp_cmdY (y := (1, 0, 0, 0, 86, 87)) (v := iWC) cw_p79 (by omega) (by omega) (by rw [tk79_e]; exact prm5c (by rw [ini_B.2.1]; exact exNc tk84_k tk84_g tk84_e (by omega)) (exSc tk86_k tk86_b tk86_e (by decide +kernel))) ex_s5)).tr ?_
  exact RCH.one frz_0 (stp_fin tk87_k rfl)
theorem SCO_20 {f g h : Nat → Int} {ke ko : Int} {R : PT} (q : SCO tx20 87 (scS tx20 87 f g h) ke ko R) : ke = 0 ∧ PW R iWC := by
  have h2 : SRO tx20 87 0 0 iWC := Or.inl ⟨rfl, fun f g h => tx20_run f g h⟩
  obtain ⟨e, ⟨e2, e3⟩ | ⟨e2, -⟩⟩ := SCO_SRO q h2
  · exact ⟨e2, e3⟩
  · exact absurd e e2
