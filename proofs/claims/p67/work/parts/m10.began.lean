/-! a text beyond its end says nothing -/
theorem ty4_x {T U : Nat → Int} {n x : Int} (h0 : 0 ≤ n) (h : ∀ k : Nat, (k : Int) < n → T k = U k) : ∀ k : Nat, (k : Int) < n + 4 → ty4 T n x k = ty4 U n x k := by
  intro k hk
  unfold ty4
  by_cases c3 : k = (n + 3).toNat
  · rw [c3, uI_s, uI_s]
  rw [uI_n c3, uI_n c3]
  by_cases c2 : k = (n + 2).toNat
  · rw [c2, uI_s, uI_s]
  rw [uI_n c2, uI_n c2]
  by_cases c1 : k = (n + 1).toNat
  · rw [c1, uI_s, uI_s]
  rw [uI_n c1, uI_n c1]
  by_cases c0 : k = n.toNat
  · rw [c0, uI_s, uI_s]
  rw [uI_n c0, uI_n c0]
  exact h k (by omega)
theorem ap5_x {T U : Nat → Int} {n a b c d e : Int} (h0 : 0 ≤ n) (h : ∀ k : Nat, (k : Int) < n → T k = U k) : ∀ k : Nat, (k : Int) < n + 20 → ap5 T n a b c d e k = ap5 U n a b c d e k := by
  intro k hk
  have e1 := ty4_x (x := a) h0 h
  have e2 := ty4_x (x := b) (by omega) e1
  rw [show n + 4 + 4 = n + 8 by omega] at e2
  have e3 := ty4_x (x := c) (by omega) e2
  rw [show n + 8 + 4 = n + 12 by omega] at e3
  have e4 := ty4_x (x := d) (by omega) e3
  rw [show n + 12 + 4 = n + 16 by omega] at e4
  have e5 := ty4_x (x := e) (by omega) e4
  exact e5 k (by omega)
section TXX
variable {T U : Nat → Int} {n : Int}
theorem spn_x {p : Int → Prop} [DecidablePred p] (hn : 1 ≤ n) (h : ∀ k : Nat, (k : Int) < n → T k = U k) : ∀ (k : Nat) (x : Int), spn p T n k x = spn p U n k x
  | 0, _ => rfl
  | k + 1, x => by
    show (if x < n ∧ p (T x.toNat) then spn p T n k (x + 1) else x) = (if x < n ∧ p (U x.toNat) then spn p U n k (x + 1) else x)
    by_cases c : x < n
    · rw [h x.toNat (by omega), spn_x hn h k]
    · rw [if_neg (fun q => c q.1), if_neg (fun q => c q.1)]
theorem toB_x (hn : 1 ≤ n) (h : ∀ k : Nat, (k : Int) < n → T k = U k) (p : Int) : toB T n p = toB U n p := spn_x hn h _ _
theorem toE_x (hn : 1 ≤ n) (h : ∀ k : Nat, (k : Int) < n → T k = U k) (p : Int) : toE T n p = toE U n p := by
  have b := toB_x hn h p
  unfold toE
  rw [b]
  by_cases c : toB U n p < n
  · rw [if_pos c, if_pos c, h (toB U n p).toNat (by omega)]
    unfold spE
    rw [spn_x (p := pLe) hn h, spn_x (p := pDi) hn h]
  · rw [if_neg c, if_neg c]
theorem toK_x (hn : 1 ≤ n) (h : ∀ k : Nat, (k : Int) < n → T k = U k) (p : Int) : toK T n p = toK U n p := by
  have b := toB_x hn h p
  have e := toE_x hn h p
  unfold toK
  rw [b, e]
  by_cases c : toB U n p < n
  · rw [if_pos c, if_pos c, h (toB U n p).toNat (by omega)]
  · rw [if_neg c, if_neg c]
end TXX

/-! the law's own script -/
abbrev bgT (T : Nat → Int) : Nat → Int := ap5 T 0 1819238766 1933254688 538976288 538976288 538976288
theorem bg_k (T : Nat → Int) : ∀ k : Nat, (k : Int) < 20 → bgT T k = (lo_tx 19).getD k 0 := fun k hk => by
  have e := ap5_x (T := T) (U := fun _ => 0) (n := 0) (a := 1819238766) (b := 1933254688) (c := 538976288) (d := 538976288) (e := 538976288) (by omega) (fun k hk => absurd hk (by omega)) k (by omega)
  rw [show bgT T k = ap5 T 0 1819238766 1933254688 538976288 538976288 538976288 k from rfl, e]
  exact (by decide +kernel : ∀ k : Nat, k < 20 → ap5 (fun _ => 0) 0 1819238766 1933254688 538976288 538976288 538976288 k = (lo_tx 19).getD k 0) k (by omega)
theorem TKN_x {T U : Nat → Int} {n p k b a : Int} (hn : 1 ≤ n) (h : ∀ k : Nat, (k : Int) < n → T k = U k) (q : TKN U n p k b a) : TKN T n p k b a := ⟨(toK_x hn h p).trans q.1, (toB_x hn h p).trans q.2.1, (toE_x hn h p).trans q.2.2⟩
theorem bg_0 (T : Nat → Int) : TKN (bgT T) 20 0 1 0 5 := TKN_x (U := fun k => (lo_tx 19).getD k 0) (by omega) (bg_k T) (by unfold TKN; decide +kernel)
theorem bg_5 (T : Nat → Int) : TKN (bgT T) 20 5 3 5 6 := TKN_x (U := fun k => (lo_tx 19).getD k 0) (by omega) (bg_k T) (by unfold TKN; decide +kernel)
theorem bg_6 (T : Nat → Int) : TKN (bgT T) 20 6 0 20 20 := TKN_x (U := fun k => (lo_tx 19).getD k 0) (by omega) (bg_k T) (by unfold TKN; decide +kernel)
theorem bg_L (T : Nat → Int) : exL (bgT T) 20 = .ok (5, 6) := by
  have h := bg_0 T
  have hw : WD (bgT T) (toK (bgT T) 20 0) (toB (bgT T) 20 0) (toE (bgT T) 20 0) 0 := by
    rw [h.1, h.2.1, h.2.2]
    refine ⟨rfl, by decide +kernel, fun k hk => ?_⟩
    have hk : k < 5 := hk
    rw [bg_k T _ (by show ((0 + k : Nat) : Int) < 20; omega)]
    exact (by decide +kernel : ∀ k : Nat, k < 5 → (lo_tx 19).getD (0 + k) 0 = (lo_tx 0).getD k 0) k hk
  rw [exL_y hw, h.2.2]
  exact exS_t (bg_5 T) (by rw [bg_k T _ (by decide)]; decide +kernel)
theorem bg_run (T f g h : Nat → Int) : RCH (bgT T) 20 0 (scS (bgT T) 20 f g h) (sFin (fun _ => 0)) := by
  rw [scS_o (bg_L T)]
  exact RCH.one frz_0 (stp_fin (bg_6 T).1 rfl)
theorem bg_P {T f g h : Nat → Int} {P : PT} {ke ko : Int} (hs : SCO (bgT T) 20 (scS (bgT T) 20 f g h) ke ko P) : ke = 0 ∧ PI P ∧ Pn P = 0 := by
  obtain ⟨h1, h2⟩ := SCO_fin hs (bg_run T f g h)
  exact ⟨h1, h2.1, (PW_n h2).symm⟩
theorem ty4_r {T : Nat → Int} {n x : Int} (h : ∀ k : Nat, 0 ≤ T k ∧ T k ≤ 255) : ∀ k : Nat, 0 ≤ ty4 T n x k ∧ ty4 T n x k ≤ 255 := by
  intro k
  unfold ty4
  by_cases c3 : k = (n + 3).toNat
  · rw [c3, uI_s]; omega
  rw [uI_n c3]
  by_cases c2 : k = (n + 2).toNat
  · rw [c2, uI_s]; omega
  rw [uI_n c2]
  by_cases c1 : k = (n + 1).toNat
  · rw [c1, uI_s]; omega
  rw [uI_n c1]
  by_cases c0 : k = n.toNat
  · rw [c0, uI_s]; omega
  rw [uI_n c0]
  exact h k
theorem ap5_r {T : Nat → Int} {n a b c d e : Int} (h : ∀ k : Nat, 0 ≤ T k ∧ T k ≤ 255) : ∀ k : Nat, 0 ≤ ap5 T n a b c d e k ∧ ap5 T n a b c d e k ≤ 255 := ty4_r (ty4_r (ty4_r (ty4_r (ty4_r h))))
set_option maxHeartbeats 1000000 in
set_option maxRecDepth 100000 in
theorem qX7_append (l : Launch) (X : KX) (kS : Nat → Nat) (D : AD9) (Z : CZ) (hsz : zI Z 0 = 0) : CE l X kS yX7_append wsX7_append ({ frames := 1, cells := 0, slots := 0, locals := 22 }) [.ref (D.1 0), .int (iI 1819238766), .int (iI 1933254688), .int (iI 538976288), .int (iI 538976288), .int (iI 538976288)] (wC X D Z) (fun v9 w9 => ∃ t : Int, True ∧ v9 = some (.int (iI t)) ∧ w9 = wC X D (uI (zI Z) 0 20, bgT (zT Z), zB Z, zP Z, zS Z, zR Z, zQ Z, zL Z, zA Z, zG Z)) 0 0 :=
  (uX7_append l X D.1 D.2.1 D.2.2.1 D.2.2.2.1 D.2.2.2.2.1 D.2.2.2.2.2.1 D.2.2.2.2.2.2.1 D.2.2.2.2.2.2.2.1 D.2.2.2.2.2.2.2.2 Z 1819238766 1933254688 538976288 538976288 538976288 (by omega) (by omega) (by omega) (by omega) (by omega) (by omega)).toE.weak (fun v w h9 => by
    obtain ⟨n9, U, z, hz, hv, hw⟩ := h9
    rcases hz with ⟨-, -, h1, h2⟩ | ⟨h1, -⟩
    · refine ⟨z, trivial, hv, ?_⟩
      rw [hw, h1, h2, hsz]
      rfl
    · exact absurd h1 (by omega))
set_option maxHeartbeats 1000000 in
set_option maxRecDepth 100000 in
theorem qX7_runScript (l : Launch) (X : KX) (kS : Nat → Nat) (D : AD9) (Z : CZ) (T : Nat → Int) (n : Int) (hC : CV n Z) (hI : zI Z 0 = 20) (hT : zT Z = bgT T) (hr : ∀ k : Nat, 0 ≤ T k ∧ T k ≤ 255) (hv : 0 ≤ zI Z 18 ∧ zI Z 18 ≤ 9999999) (hPR : PI (zR Z)) : CE l X kS yX7_runScript wsX7_runScript ({ frames := 8, cells := 0, slots := 0, locals := 292 }) [.ref (D.1 0)] (wC X D Z) (fun v9 w9 => ∃ t : CZ, CV 0 t ∧ v9 = some (.int (iI 0)) ∧ w9 = wC X D t) 0 0 :=
  (uX7_runScript l X kS D.1 D.2.1 D.2.2.1 D.2.2.2.1 D.2.2.2.2.1 D.2.2.2.2.2.1 D.2.2.2.2.2.2.1 D.2.2.2.2.2.2.2.1 D.2.2.2.2.2.2.2.2 Z (by omega) (by rw [hT]; exact ap5_r hr) hv hPR hC.1 hC.2.1 hC.2.2.1).weak (fun v w h9 => by
    obtain ⟨qn, qp, qs, qk, qv, qe, qx, qd, q1, q2, q3, qt, ke, ko, G1, G2, G3, R9, P9, Q9, n9, k9, z, hs, -, hz, -, -, hv9, hw9⟩ := h9
    rw [hT, hI] at hs
    obtain ⟨e0, hPI9, hn9⟩ := bg_P hs
    rcases hz with ⟨-, z1, z2, -, z4, z5⟩ | ⟨z0, -⟩
    · have hP : Pn P9 = 0 := by rw [z2]; exact hn9
      have h2 := hC.2.1
      have h3 := hC.2.2.1
      rw [show z = 0 by omega] at hv9
      refine ⟨_, ⟨?_, ?_, ?_, by omega, ?_⟩, hv9, hw9⟩
      · show PI P9
        rw [z2]
        exact cpP_PI hPI9
      · have e : (uI (uI (uI (uI (uI (uI (uI (uI (uI (uI (uI (uI (uI (uI (uI (uI (uI (zI Z) 0 0) 2 n9) 3 k9) 5 qe) 6 qx) 7 qd) 8 q1) 9 q2) 10 q3) 11 qt) 12 ke) 13 ko) 14 qn) 15 qp) 16 qs) 17 qk) 18 qv) 2 = n9 := rfl
        show 0 ≤ (uI (uI (uI (uI (uI (uI (uI (uI (uI (uI (uI (uI (uI (uI (uI (uI (uI (zI Z) 0 0) 2 n9) 3 k9) 5 qe) 6 qx) 7 qd) 8 q1) 9 q2) 10 q3) 11 qt) 12 ke) 13 ko) 14 qn) 15 qp) 16 qs) 17 qk) 18 qv) 2 ∧ (uI (uI (uI (uI (uI (uI (uI (uI (uI (uI (uI (uI (uI (uI (uI (uI (uI (zI Z) 0 0) 2 n9) 3 k9) 5 qe) 6 qx) 7 qd) 8 q1) 9 q2) 10 q3) 11 qt) 12 ke) 13 ko) 14 qn) 15 qp) 16 qs) 17 qk) 18 qv) 2 < 8
        rw [e]; omega
      · have e : (uI (uI (uI (uI (uI (uI (uI (uI (uI (uI (uI (uI (uI (uI (uI (uI (uI (zI Z) 0 0) 2 n9) 3 k9) 5 qe) 6 qx) 7 qd) 8 q1) 9 q2) 10 q3) 11 qt) 12 ke) 13 ko) 14 qn) 15 qp) 16 qs) 17 qk) 18 qv) 3 = k9 := rfl
        show 0 ≤ (uI (uI (uI (uI (uI (uI (uI (uI (uI (uI (uI (uI (uI (uI (uI (uI (uI (zI Z) 0 0) 2 n9) 3 k9) 5 qe) 6 qx) 7 qd) 8 q1) 9 q2) 10 q3) 11 qt) 12 ke) 13 ko) 14 qn) 15 qp) 16 qs) 17 qk) 18 qv) 3 ∧ (uI (uI (uI (uI (uI (uI (uI (uI (uI (uI (uI (uI (uI (uI (uI (uI (uI (zI Z) 0 0) 2 n9) 3 k9) 5 qe) 6 qx) 7 qd) 8 q1) 9 q2) 10 q3) 11 qt) 12 ke) 13 ko) 14 qn) 15 qp) 16 qs) 17 qk) 18 qv) 3 ≤ 8
        rw [e]; omega
      · intro i hi
        have hi : (i : Int) < Pn P9 := hi
        omega
    · exact absurd e0 z0)
/-! the words of the text, letter by letter -/
def orS (a b c : Int) : Int := (iI a ||| (iI b <<< (iI c &&& 31))).toInt
theorem orS_e (a b c : Int) : (iI a ||| (iI b <<< (iI c &&& 31))) = iI (orS a b c) := iI_of _
def wB : Nat → Nat → Int
  | 0 => fun _ => 0
  | i + 1 => uI (wB i) ((i : Int) / 4).toNat (orS (wB i ((i : Int) / 4).toNat) ((lo_tx 19).getD i 0) (24 - 8 * ((i : Int) % 4)))
theorem wB_s {i : Int} (h : 0 ≤ i) : uI (wB i.toNat) (i / 4).toNat (orS (wB i.toNat (i / 4).toNat) ((lo_tx 19).getD i.toNat 0) (24 - 8 * (i % 4))) = wB (i + 1).toNat := by
  rw [show (i + 1).toNat = i.toNat + 1 by omega]
  show _ = uI (wB i.toNat) ((i.toNat : Int) / 4).toNat (orS (wB i.toNat ((i.toNat : Int) / 4).toNat) ((lo_tx 19).getD i.toNat 0) (24 - 8 * ((i.toNat : Int) % 4)))
  rw [Int.toNat_of_nonneg h]
theorem wB_20 : wB 20 0 = 1819238766 ∧ wB 20 1 = 1933254688 ∧ wB 20 2 = 538976288 ∧ wB 20 3 = 538976288 ∧ wB 20 4 = 538976288 := by decide +kernel
/-- cells behind that are no longer wanted -/
theorem lo_Wd_hd {X : KX} {a b : va_W} {A : Nat → Prop} {H0 H : Heap} {locs : List Loc} (hw : lo_Wd X (a ++ b) A H0 H locs) : lo_Wd X a A H0 H locs := by
  have hk : ∀ (k : Nat) (q : Nat × va_E), a[k]? = some q → (a ++ b)[k]? = some q := fun k q h => by
    rw [List.getElem?_append_left (List.getElem?_eq_some_iff.mp h).1]
    exact h
  exact ⟨fun k q h => hw.1 k q (hk k q h), ⟨fun i j p q hi hj e => hw.2.1.1 i j p q (hk i p hi) (hk j q hj) e, fun k q h => hw.2.1.2 k q (hk k q h)⟩, hw.2.2⟩
theorem CV_ap {n : Int} {Z : CZ} (h : CV n Z) : CV n (uI (zI Z) 0 20, bgT (zT Z), zB Z, zP Z, zS Z, zR Z, zQ Z, zL Z, zA Z, zG Z) := h
theorem iI_rem {a b : Int} (ha : i32 a) (h0 : 0 ≤ a) (hb : i32 b) (h1 : 0 < b) : iI a - iI a / iI b * iI b = iI (a % b) := by
  rw [iI_div ha h0 hb h1, iI_mul, iI_sub, lo_emod]
section LWI
variable {p : Program} {l : Launch} {e : Env} {R : Room} {s : State} {m : MethodId} {args : Array Value} {below : List Frame} {meth : Method} {c : Code} {H : Heap} {locs : List Loc} {cells slots : Nat} {Q : State → Prop}
variable {cc : ByteArray} {pc nL : Nat} {ls : Array Slot} {rest : List Value} {Ts : List Cond} {own : String}
theorem lo_irem (E : CallFix p m c cc nL s args Ts own) {x y : Int} (hdg : decode cc pc = .ok (.irem, 1)) (hx : i32 x ∧ 0 ≤ x) (hy : i32 y ∧ 0 < y) (k : W p l e R s m args below meth c H locs cells slots Q (F0 m (pc + 1) ls (.int (iI (x % y)) :: rest))) : W p l e R s m args below meth c H locs cells slots Q (F0 m pc ls (.int (iI y) :: .int (iI x) :: rest)) := lv_irem E.1 E.2.1 hdg (iI_ne0 hy.1 (by omega)) (by rw [iI_rem hx.1 hx.2 hy.1 hy.2]; exact k)
end LWI
