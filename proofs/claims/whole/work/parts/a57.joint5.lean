/-! the calls of their own form -/
theorem sch_len : ∀ (k : Nat) (ix : Int) (L : Nat → Int), ((schL k ix L).length : Int) ≤ 19 * k
  | 0, _, _ => by show ((0 : Nat) : Int) ≤ 19 * ((0 : Nat) : Int); omega
  | k + 1, ix, L => by
    by_cases h : 0 < L 1
    · rw [schL_s h, List.length_append, List.length_append]
      have q1 := sch_len k (ix + 1) (payL L)
      have q2 := pmL_len (dueL L) (fI (L 1) (L 2) (L 5)) (payL L 1 ≤ 0)
      have q3 : ((if 0 < ix then [(32 : Int)] else []).length : Int) ≤ 1 := by split <;> simp
      omega
    · rw [schL_e (by omega)]
      show ((0 : Nat) : Int) ≤ _
      omega
theorem rep_len (L : Nat → Int) : 0 ≤ repN L ∧ repN L ≤ 256 := by
  by_cases h : 0 < L 1
  · have q := sch_len 12 0 L
    rw [(rep_y h).2]
    show 0 ≤ ((schL 12 0 L).length : Int) ∧ ((schL 12 0 L).length : Int) ≤ 256
    omega
  · rw [(rep_n (by omega)).2]
    omega
theorem schL_x : ∀ (k : Nat) (ix : Int) {f g : Nat → Int}, (∀ j, j < 10 → f j = g j) → schL k ix f = schL k ix g
  | 0, _, _, _, _ => rfl
  | k + 1, ix, f, g, e => by
    have e1 := e 1 (by omega)
    by_cases h : 0 < f 1
    · rw [schL_s h, schL_s (show 0 < g 1 by omega), payL_x e, dueL_x e, e1, e 2 (by omega), e 5 (by omega)]
    · rw [schL_e (show f 1 ≤ 0 by omega), schL_e (show g 1 ≤ 0 by omega)]
theorem repL_x {f g : Nat → Int} (e : ∀ j, j < 10 → f j = g j) : repL f = repL g := by
  have e1 := e 1 (by omega)
  by_cases h : 0 < f 1
  · rw [(rep_y h).1, (rep_y (show 0 < g 1 by omega)).1, schL_x 12 0 e]
  · rw [(rep_n (show f 1 ≤ 0 by omega)).1, (rep_n (show g 1 ≤ 0 by omega)).1]
theorem wrL_k : ∀ (l : List Int) (B C : Nat → Int) (n : Int), 0 ≤ n → (∀ j : Nat, (j : Int) < n → B j = C j) → ∀ k : Nat, (k : Int) < n + l.length → wrL B n l k = wrL C n l k
  | [], B, C, n, _, h, k, hk => h k (by have : (([] : List Int).length : Int) = 0 := rfl; omega)
  | c :: l, B, C, n, h0, h, k, hk => by
    show wrL (uI B n.toNat c) (n + 1) l k = wrL (uI C n.toNat c) (n + 1) l k
    refine wrL_k l _ _ (n + 1) (by omega) (fun j hj => ?_) k (by have : ((c :: l).length : Int) = l.length + 1 := rfl; omega)
    by_cases e : j = n.toNat
    · rw [e, uI_s, uI_s]
    · rw [uI_n e, uI_n e]; exact h j (by omega)
theorem spF_N (y : Int) : ∀ (k : Nat) (P : PT) (x : Int), Pn (spF y k P x).1 = Pn P
  | 0, P, x => rfl
  | k + 1, P, x => by
    show Pn (if 0 < x then (if pickL y P = -1 then (P, x) else spF y k (plRed P (pickL y P) (min x (PL P (pickL y P).toNat 1)) 0) (x - min x (PL P (pickL y P).toNat 1))) else (P, x)).1 = Pn P
    split
    · split
      · rfl
      · exact (spF_N y k _ _).trans rfl
    · rfl
theorem bgF_N (bu y : Int) : ∀ (k : Nat) (P : PT) (mo : Int), Pn (bgF bu y k P mo).1 = Pn P
  | 0, P, mo => rfl
  | k + 1, P, mo => by
    by_cases h : 0 < cnt (PL P) (Pn P).toNat
    · by_cases h2 : bu < dueS P
      · rw [bgF_n h h2]
      · rw [bgF_s h (by omega), bgF_N bu y k, spF_N, plAll_n]
    · rw [bgF_e (by omega)]
set_option maxRecDepth 20000 in
theorem J_budgetMonths {Z Z9 : CZ} {Y Y9 : RZ} {k : Int} {y : Int} {kk b : Int} {g9 : Nat → Int64} (h : SIM Z Y) (hy : y = 0 ∨ y = 1) (h7 : W7_budgetMonths Z k y kk Z9 g9) (h8 : F8_budgetMonths Y k y b Y9) : kk = eM Y9 0 ∧ (kk = 0 → g9 0 = (iI b).toInt64) ∧ SIM Z9 Y9 := by
  obtain ⟨N, g1, r, hN, f1, hb8, hY⟩ := h8
  subst b Y9
  have hb := PW_bg k y 120 (cpP (zR Z) (zP Z)) (eW Y) 0 (PW_cp h.1.1)
  rcases h7 with ⟨rfl, zz, ⟨a0, hz, rfl⟩, hg⟩ | ⟨rfl, x0, x1, rfl⟩
  · rcases f1 with ⟨n0, -, f2⟩ | ⟨-, f2⟩
    · refine ⟨n0.symm, fun _ => ?_, SIM_q h (AM_p hN) hb.1.1⟩
      rw [hg, hz, f2, hb.2]
    · exact absurd a0 f2
  · rcases f1 with ⟨-, f2, -⟩ | ⟨n0, -⟩
    · exact absurd f2 x1
    · exact ⟨n0.symm, fun q => absurd q (by omega), SIM_q h (AM_p hN) (SIM_PI h)⟩
set_option maxRecDepth 20000 in
theorem J_budgetInterest {Z Z9 : CZ} {Y Y9 : RZ} {k : Int} {y : Int} {kk b : Int} {g9 : Nat → Int64} (h : SIM Z Y) (hy : y = 0 ∨ y = 1) (h7 : W7_budgetInterest Z k y kk Z9 g9) (h8 : F8_budgetInterest Y k y b Y9) : kk = eM Y9 0 ∧ (kk = 0 → g9 0 = (iI b).toInt64) ∧ SIM Z9 Y9 := by
  obtain ⟨N, g1, r, hN, f1, hb8, hY⟩ := h8
  subst b Y9
  have hb := PW_bg k y 120 (cpP (zR Z) (zP Z)) (eW Y) 0 (PW_cp h.1.1)
  have hn := PW_n h.1.1
  have hm := PW_n hb.1
  have hN2 : Pn (bgF k y 120 (cpP (zR Z) (zP Z)) 0).1 = Pn (zP Z) := (bgF_N k y 120 _ 0).trans rfl
  have s1 := PW_sum hb.1 6 (by omega)
  have s2 := PW_sum h.1.1 6 (by omega)
  rcases h7 with ⟨rfl, zz, ⟨z, a0, a1, hz, rfl⟩, hg⟩ | ⟨rfl, x0, x1, rfl⟩
  · rcases f1 with ⟨n0, -, f2⟩ | ⟨-, f2⟩
    · refine ⟨n0.symm, fun _ => ?_, SIM_q h (AM_p hN) hb.1.1⟩
      have hv : zz = r := by
        rw [s1, s2, hb.2, hm, hN2, ← hn] at a1
        rcases a1 with p | p <;> rcases f2 with q | q
        · exact hz.trans (p.2.trans q.2.symm)
        · exact absurd p.1 q.1
        · exact absurd q.1 p.1
        · exact hz.trans (p.2.trans q.2.symm)
      rw [hg, hv]
    · exact absurd a0 f2
  · rcases f1 with ⟨-, f2, -⟩ | ⟨n0, -⟩
    · exact absurd f2 x1
    · exact ⟨n0.symm, fun q => absurd q (by omega), SIM_q h (AM_p hN) (SIM_PI h)⟩
set_option maxRecDepth 20000 in
theorem J_writeSchedule {Z Z9 : CZ} {Y Y9 : RZ} {i : Int} {kk b : Int} {g9 : Nat → Int64} (h : SIM Z Y) (h7 : W7_writeSchedule Z i kk Z9 g9) (h8 : F8_writeSchedule Y i b Y9) : kk = eM Y9 0 ∧ (kk = 0 → g9 0 = (iI b).toInt64) ∧ SIM Z9 Y9 := by
  obtain ⟨N, C9, z, hN, f1, rfl, rfl⟩ := h8
  have hn := PW_n h.1.1
  have n3 := hN 3 (by omega) (by omega) (by omega)
  have n5 := hN 5 (by omega) (by omega) (by omega)
  have n9 := hN 9 (by omega) (by omega) (by omega)
  have n23 := hN 23 (by omega) (by omega) (by omega)
  have n26 := hN 26 (by omega) (by omega) (by omega)
  have n27 := hN 27 (by omega) (by omega) (by omega)
  rcases h7 with ⟨rfl, zz, ⟨A9, a0, hz, rfl⟩, hg⟩ | ⟨rfl, x0, x1, rfl⟩
  · rcases f1 with ⟨n0, f2, f3, rfl, f5⟩ | ⟨-, f2, -⟩
    · have e := PW_L h.1.1 a0.1 a0.2
      have er := repL_x e
      have en : repN (PL (zP Z) i.toNat) = repN (WL (eW Y) i) := congrArg (fun l : List Int => (l.length : Int)) er
      have hl := rep_len (WL (eW Y) i)
      obtain ⟨h1, ⟨h4, h5, h6, h7, h8⟩, ⟨h9, h10⟩, ⟨h11, h12, h13, h14⟩, -, ⟨h18, h19⟩, h20, h21⟩ := h
      refine ⟨n0.symm, fun _ => by rw [hg, hz, f5, en], h1, ⟨by show (∀ k : Nat, (k : Int) < N 9 → zT Z k = eT Y k) ∧ _; rw [n9]; exact h4, h5, h6.trans n9.symm, by show 0 ≤ N 9; rw [n9]; exact h7, by show N 9 ≤ 500; rw [n9]; exact h8⟩, ⟨by show HIS (zI Z 2) (N 3) (zQ Z) (eQ Y) (eC Y); rw [n3]; exact h9, h10.trans n3.symm⟩, ⟨h11.trans n5.symm, by show N 5 = 0 ∨ N 5 = 1; rw [n5]; exact h12, h13, by show N 5 = 1 → PW (zS Z) (eS Y) ∧ HP (zS Z); rw [n5]; exact h14⟩, ⟨by show repN (PL (zP Z) i.toNat) = N 11; rw [f3, en], by show 0 ≤ N 11 ∧ N 11 ≤ 256; rw [f3]; exact hl, ?_⟩, ⟨h18.trans n26.symm, h19.trans n27.symm⟩, h20, by show 0 ≤ N 23 ∧ N 23 ≤ 9999999; rw [n23]; exact h21⟩
      show ∀ k : Nat, (k : Int) < N 11 → wrL (zB Z) 0 (repL (PL (zP Z) i.toNat)) k = wrL (eR Y) 0 (repL (WL (eW Y) i)) k
      intro k hk
      rw [er]
      refine wrL_k _ _ _ 0 (by omega) (fun j hj => absurd hj (by omega)) k ?_
      rw [f3] at hk
      have hr : repN (WL (eW Y) i) = ((repL (WL (eW Y) i)).length : Int) := rfl
      omega
    · exfalso; omega
  · rcases f1 with ⟨-, f2, -⟩ | ⟨n0, f2, f3, rfl, f5⟩
    · exfalso; omega
    · exact ⟨n0.symm, fun q => absurd q (by omega), SIM_q h ⟨⟨n5, n9, f3, n23, n26, n27⟩, n3⟩ (SIM_PI h)⟩
set_option maxRecDepth 20000 in
theorem J_append {Z Z9 : CZ} {Y Y9 : RZ} {x0 x1 x2 x3 x4 : Int} {zz b : Int} (h : SIM Z Y) (h7 : F7_append Z x0 x1 x2 x3 x4 zz Z9) (h8 : F8_append Y x0 x1 x2 x3 x4 b Y9) : zz = b ∧ SIM Z9 Y9 := by
  obtain ⟨n9, U, z, f, hb, rfl⟩ := h8
  obtain ⟨m9, V, y, a, hz, rfl⟩ := h7
  obtain ⟨h1, ⟨⟨hA, hT⟩, hR, h9, h90, h91⟩, hH, hS, hB, hE, hv, hg⟩ := h
  have e : m9 = n9 ∧ y = z ∧ (0 ≤ n9 ∧ n9 ≤ 500) ∧ (∀ k : Nat, 0 ≤ U k ∧ U k ≤ 255) ∧ (∀ k : Nat, 0 ≤ V k ∧ V k ≤ 255) ∧ ∀ k : Nat, (k : Int) < n9 → V k = U k := by
    rw [h9] at a
    rcases a with ⟨a1, a2, a3, a4⟩ | ⟨a1, a2, a3, a4⟩ <;> rcases f with ⟨f1, f2, f3, f4⟩ | ⟨f1, f2, f3, f4⟩
    · refine ⟨a3.trans f3.symm, a2.trans f2.symm, by omega, by rw [f4]; exact ap5_r hR, by rw [a4]; exact ap5_r hT, fun k hk => ?_⟩
      rw [a4, f4]
      exact ap5_x h90 hA k (by omega)
    · exfalso; omega
    · exfalso; omega
    · exact ⟨a3.trans f3.symm, a2.trans f2.symm, by omega, by rw [f4]; exact hR, by rw [a4]; exact hT, by rw [a4, f4, f3]; exact hA⟩
  obtain ⟨rfl, rfl, e4, e5, e6, e7⟩ := e
  exact ⟨hz.trans hb.symm, h1, ⟨⟨e7, e6⟩, e5, rfl, e4.1, e4.2⟩, hH, hS, hB, hE, hv, hg⟩
set_option maxRecDepth 20000 in
theorem J_truncateInput {Z Z9 : CZ} {Y Y9 : RZ} {k : Int} {kk b : Int} {g9 : Nat → Int64} (h : SIM Z Y) (h7 : W7_truncateInput Z k kk Z9 g9) (h8 : F8_truncateInput Y k b Y9) : kk = eM Y9 0 ∧ (kk = 0 → g9 0 = (iI b).toInt64) ∧ SIM Z9 Y9 := by
  obtain ⟨t, n, r, f, hb8, hY⟩ := h8
  subst b Y9
  obtain ⟨h1, ⟨⟨hA, hT⟩, hR, h9, h90, h91⟩, hH, hS, hB, hE, hv, hg⟩ := h
  rcases h7 with ⟨rfl, zz, ⟨a0, hz, hZ⟩, hw⟩ | ⟨rfl, x0, x1, hZ⟩
  · subst Z9
    have e : t = 0 ∧ n = k ∧ r = k := by omega
    exact ⟨e.1.symm, fun _ => by rw [hw, hz, e.2.2], h1, ⟨⟨fun j hj => hA j (by have hj : (j : Int) < n := hj; omega), hT⟩, hR, e.2.1.symm, by show 0 ≤ n; omega, by show n ≤ 500; omega⟩, hH, hS, hB, hE, hv, hg⟩
  · subst Z9
    have e : t = 1 ∧ n = eM Y 9 := by omega
    exact ⟨e.1.symm, fun q => absurd q (by omega), h1, ⟨⟨fun j hj => hA j (by have hj : (j : Int) < n := hj; omega), hT⟩, hR, h9.trans e.2.symm, by show 0 ≤ n; omega, by show n ≤ 500; omega⟩, hH, hS, hB, hE, hv, hg⟩
set_option maxRecDepth 20000 in
theorem J_undo {Z Z9 : CZ} {Y Y9 : RZ} {zz b : Int} (h : SIM Z Y) (h7 : F7_undo Z zz Z9) (h8 : F8_undo Y b Y9) : zz = b ∧ SIM Z9 Y9 := by
  obtain ⟨u, m, z, f, hb, rfl⟩ := h8
  obtain ⟨P9, n9, k9, y, a, hz, rfl⟩ := h7
  obtain ⟨⟨hP, hHP, hR⟩, hT, ⟨hH, h3⟩, hS, hB, hE, hv, hg⟩ := h
  rcases a with ⟨a1, a2, rfl, rfl, rfl⟩ | ⟨a1, a2, rfl, rfl, rfl⟩
  · have e : z = -1 ∧ m = eM Y 3 := by omega
    have eu : u = eW Y := by
      rcases f with ⟨-, -, -, f⟩ | ⟨f, -⟩
      · exact f
      · exfalso; omega
    obtain ⟨rfl, rfl⟩ := e
    subst eu
    exact ⟨by rw [hz, hb, a2], ⟨hP, hHP, hR⟩, hT, ⟨hH, h3⟩, hS, hB, hE, hv, hg⟩
  · rcases f with ⟨f, -⟩ | ⟨f1, f2, f3, rfl⟩
    · exfalso; omega
    · obtain ⟨q1, q2, q3⟩ := HIS_und hH f1
      refine ⟨by omega, ⟨PW_cp q2, HP_cp q3, hR⟩, hT, ⟨?_, by show zI Z 3 - 1 = m; omega⟩, hS, hB, hE, hv, hg⟩
      show HIS ((zI Z 2 - 1) % 8) m (zQ Z) (eQ Y) (eC Y)
      rw [f3]
      exact q1
set_option maxRecDepth 20000 in
theorem J_saveSnapshot {Z Z9 : CZ} {Y Y9 : RZ} {zz b : Int} (h : SIM Z Y) (h7 : F7_saveSnapshot Z zz Z9) (h8 : F8_saveSnapshot Y b Y9) : zz = b ∧ SIM Z9 Y9 := by
  obtain ⟨hb, rfl⟩ := h8
  obtain ⟨hz, rfl⟩ := h7
  obtain ⟨⟨hP, hHP, hR⟩, hT, hH, hS, hB, hE, hv, hg⟩ := h
  have hc : PW (cpP (zS Z) (zP Z)) (eW Y) := PW_cp hP
  exact ⟨hz.trans ((PW_n hP).symm.trans hb.symm), ⟨hP, hHP, hR⟩, hT, hH, ⟨rfl, Or.inr rfl, hc.1, fun _ => ⟨hc, HP_cp hHP⟩⟩, hB, hE, hv, hg⟩
set_option maxRecDepth 20000 in
theorem J_restoreSnapshot {Z Z9 : CZ} {Y Y9 : RZ} {kk b : Int} {g9 : Nat → Int64} (h : SIM Z Y) (h7 : W7_restoreSnapshot Z kk Z9 g9) (h8 : F8_restoreSnapshot Y b Y9) : kk = eM Y9 0 ∧ (kk = 0 → g9 0 = (iI b).toInt64) ∧ SIM Z9 Y9 := by
  obtain ⟨u, t, m, z, f, rfl, rfl⟩ := h8
  obtain ⟨⟨hP, hHP, hR⟩, hT, ⟨hH, h3⟩, ⟨s1, s2, s3, s4⟩, hB, hE, hv, hg⟩ := h
  rcases h7 with ⟨rfl, zz, ⟨a0, hz, rfl⟩, hw⟩ | ⟨rfl, x0, x1, rfl⟩
  · rcases f with ⟨f1, rfl, rfl, rfl, f5⟩ | ⟨f1, -⟩
    · obtain ⟨q1, q2⟩ := s4 f1
      have hc : PW (cpP (zP Z) (zS Z)) (eS Y) := PW_cp q1
      exact ⟨rfl, fun _ => by rw [hw, hz, f5, PW_n q1]; rfl, ⟨hc, HP_cp q2, hR⟩, hT, ⟨HIS_0 hH, rfl⟩, ⟨s1, s2, s3, s4⟩, hB, hE, hv, hg⟩
    · exfalso; omega
  · rcases f with ⟨f1, -⟩ | ⟨f1, rfl, rfl, rfl, -⟩
    · exfalso; omega
    · exact ⟨rfl, fun q => absurd q (by omega), ⟨hP, hHP, hR⟩, hT, ⟨hH, h3⟩, ⟨s1, s2, s3, s4⟩, hB, hE, hv, hg⟩
set_option maxRecDepth 20000 in
theorem J_runScript {Z Z9 : CZ} {Y Y9 : RZ} {zz b : Int} (h : SIM Z Y) (h7 : F7_runScript Z zz Z9) (h8 : F8_runScript Y b Y9) : zz = b ∧ SIM Z9 Y9 := by
  obtain ⟨N, u, y9, p, K, z, ⟨u9, f0, f1⟩, f2, ⟨n0, n9, n5, n11⟩, ⟨r23, r26⟩, fW, fE, hb, rfl⟩ := h8
  obtain ⟨qn, qp, qs, qk, qv, qe, qx, qd, q1, q2, q3, qt, ke, ko, G1, G2, G3, R9, P9, Q9, m9, k9, y, a0, a1, a2, a3, a4, hz, rfl⟩ := h7
  obtain ⟨⟨hP, hHP, hR⟩, ⟨t1, t2, t3, t4, t5⟩, ⟨hH, h3⟩, ⟨s1, s2, s3, s4⟩, ⟨b1, b2, b3⟩, hE, hv, hg⟩ := h
  have f0 := SRO_x t4 (fun k hk => (t1.1 k hk).symm) f0
  rw [← t3] at f0
  obtain ⟨e1, e2⟩ := SCO_SRO a0 f0
  have hk : ko = N 27 := by
    rcases e2 with ⟨e2, -⟩ | ⟨-, e2, -⟩
    · exact (a4 e2).trans (fE (e1.symm.trans e2)).symm
    · exact e2
  have hS' : zI Z 1 = N 5 ∧ (N 5 = 0 ∨ N 5 = 1) ∧ PI (zS Z) ∧ (N 5 = 1 → PW (zS Z) (eS Y) ∧ HP (zS Z)) := by rw [n5]; exact ⟨s1, s2, s3, s4⟩
  have hB' : zI Z 4 = N 11 ∧ (0 ≤ N 11 ∧ N 11 ≤ 256) ∧ ∀ k : Nat, (k : Int) < N 11 → zB Z k = eR Y k := by rw [n11]; exact ⟨b1, b2, b3⟩
  have hT' : ((∀ k : Nat, (k : Int) < N 9 → zT Z k = eT Y k) ∧ ∀ k : Nat, 0 ≤ zT Z k ∧ zT Z k ≤ 255) ∧ (∀ k : Nat, 0 ≤ eT Y k ∧ eT Y k ≤ 255) ∧ (0 : Int) = N 9 ∧ 0 ≤ N 9 ∧ N 9 ≤ 500 := ⟨⟨fun k hk => absurd hk (by omega), t1.2⟩, t2, n9.symm, by omega, by omega⟩
  rcases a2 with ⟨c0, c1, rfl, rfl, rfl, rfl⟩ | ⟨c0, c1, rfl, rfl, rfl, rfl⟩
  · rcases f2 with ⟨d0, d1, rfl, rfl, d4⟩ | ⟨d0, -⟩
    · have hu := f1 d0
      subst hu
      rcases e2 with ⟨-, e2⟩ | ⟨e2, -⟩
      · have hc : PW (cpP (zP Z) R9) u9 := PW_cp e2
        have hHR : HP R9 := SCO_HP (by rw [t3]; exact t4) a0 c0
        have hr := HIS_rem hH hP hHP
        refine ⟨?_, ⟨hc, HP_cp hHR, e2.1⟩, hT', ⟨?_, ?_⟩, hS', hB', ⟨e1, hk⟩, a1, r23⟩
        · rw [hz, hb, c1, d1, PW_n hc]
        · show HIS ((zI Z 2 + 1) % 8) (N 3) (uF (zQ Z) (zI Z 2).toNat (cpP (zQ Z (zI Z 2).toNat) (zP Z))) (rmQ (eQ Y) (eM Y 3)) (rmC (eC Y) (eQ Y) (eM Y 3) (eW Y))
          rw [d4]
          exact hr
        · show min (zI Z 3 + 1) 8 = N 3
          rw [d4, h3]
      · exact absurd c0 e2
    · exact absurd (e1.symm.trans c0) d0
  · rcases f2 with ⟨d0, -⟩ | ⟨d0, rfl, d2, rfl, rfl, d5⟩
    · exact absurd (e1.trans d0) c0
    · rcases e2 with ⟨e2, -⟩ | ⟨-, -, e3⟩
      · exact absurd e2 c0
      · have hu : uF (zQ Z) (zI Z 2).toNat (zQ Z (zI Z 2).toNat) = zQ Z := by
          funext j
          by_cases e : j = (zI Z 2).toNat
          · rw [e, uF_s]
          · rw [uF_n e]
        refine ⟨?_, ⟨hP, hHP, e3⟩, hT', ⟨?_, ?_⟩, hS', hB', ⟨e1, hk⟩, a1, r23⟩
        · rw [hz, hb, c1, d2]
        · show HIS (zI Z 2) (N 3) (uF (zQ Z) (zI Z 2).toNat (zQ Z (zI Z 2).toNat)) (eQ Y) (eC Y)
          rw [d5, hu]
          exact hH
        · show zI Z 3 = N 3
          rw [d5, h3]
