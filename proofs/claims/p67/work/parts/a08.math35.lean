/-! the class's script: how its run goes along the machine -/
noncomputable def scS (T : Nat → Int) (n : Int) (f g h : Nat → Int) : SS := match exL T n with
  | .error e => sBad e.1 e.2
  | .ok q => sRun q.2 0 0 f g h (fun _ => 0)
theorem scS_e {T : Nat → Int} {n : Int} {f g h : Nat → Int} {e : Int × Int} (k : exL T n = .error e) : scS T n f g h = sBad e.1 e.2 := by unfold scS; rw [k]
theorem scS_o {T : Nat → Int} {n : Int} {f g h : Nat → Int} {q : Int × Int} (k : exL T n = .ok q) : scS T n f g h = sRun q.2 0 0 f g h (fun _ => 0) := by unfold scS; rw [k]
theorem exL_y {T : Nat → Int} {n : Int} (h : WD T (toK T n 0) (toB T n 0) (toE T n 0) 0) : exL T n = exS T n 59 (toE T n 0) := if_pos h
theorem exL_n {T : Nat → Int} {n : Int} (h : ¬ WD T (toK T n 0) (toB T n 0) (toE T n 0) 0) : exL T n = .error (1, toB T n 0) := if_neg h
theorem PW_clr {P : PT} (h : PI P) : PW (0, PL P, 0, 0, Pa P, Pb P, Pd P) (fun _ => 0) := by
  obtain ⟨h1, h2, h3, h4⟩ := h
  refine ⟨⟨by show (0:Int) ≤ 0 ∧ (0:Int) ≤ 6; omega, by show (0:Int) ≤ 0 ∧ (0:Int) < 20; omega, by show (0:Int) ≤ 0 ∧ (0:Int) ≤ 20; omega, fun i hi => absurd (show (i : Int) < 0 from hi) (by omega)⟩, ⟨by show (0:Int) ≤ 0 ∧ (0:Int) ≤ 6; omega, by show (0:Int) ≤ 0 ∧ (0:Int) ≤ 20; omega, fun i h0 hi => ?_⟩, ⟨rfl, fun i hi => ?_⟩, ⟨by show (0:Int) ≤ 0 ∧ (0:Int) < 20; omega, ⟨rfl, by show (0:Int) ≤ 0; omega, by show (0:Int) ≤ 20; omega⟩, fun k hk => ?_⟩⟩
  · exact absurd (show i < 0 from hi) (by omega)
  · exact absurd (show (i : Int) < 0 from hi) (by omega)
  · exact absurd (show (k : Int) < 0 from hk) (by omega)
def RI (T : Nat → Int) (n : Int) (S0 : SS) (ix en x d : Int) (f g h : Nat → Int) (p ek eo : Int) (P : PT) : Prop :=
  (en = 0 ∧ ek = 0 ∧ (0 ≤ x ∧ x ≤ 300) ∧ (0 ≤ d ∧ d ≤ 3) ∧ AV n d f g h ∧ MZ ix p x d h ∧ ∃ w, PW P w ∧ RCH T n 0 S0 (sRun p x d f g h w)) ∨
  (en = 1 ∧ ek = 0 ∧ ∃ w, PW P w ∧ RCH T n 0 S0 (sFin w)) ∨
  (ek ≠ 0 ∧ PI P ∧ RCH T n 0 S0 (sBad ek eo))
/-- what the script's run has come to -/
def SCO (T : Nat → Int) (n : Int) (S0 : SS) (ek eo : Int) (P : PT) : Prop :=
  (ek = 0 ∧ ∃ w, PW P w ∧ RCH T n 0 S0 (sFin w)) ∨ (ek ≠ 0 ∧ PI P ∧ RCH T n 0 S0 (sBad ek eo))
section RI
variable {T : Nat → Int} {n ix en x d p ek eo : Int} {S0 : SS} {f g h f2 g2 h2 : Nat → Int} {P Q : PT} {w : Nat → Int}
theorem RI_r (q : RI T n S0 ix 0 x d f g h p 0 eo P) : (0 ≤ x ∧ x ≤ 300) ∧ (0 ≤ d ∧ d ≤ 3) ∧ AV n d f g h ∧ MZ ix p x d h ∧ ∃ w, PW P w ∧ RCH T n 0 S0 (sRun p x d f g h w) := by
  rcases q with ⟨-, -, q⟩ | ⟨q, -⟩ | ⟨q, -⟩
  · exact q
  · exact absurd q (by omega)
  · exact absurd rfl q
theorem RI_end (q : RI T n S0 ix en x d f g h p ek eo P) (hp : p ≤ 500) (he : 1000000 ≤ ix ∨ en ≠ 0 ∨ ek ≠ 0) : SCO T n S0 ek eo P := by
  rcases q with ⟨a1, a2, a3, a4, a5, a6, a7⟩ | ⟨a1, a2, a3⟩ | a
  · have := MZ_m a3.2 hp a6
    omega
  · exact Or.inl ⟨a2, a3⟩
  · exact Or.inr a
theorem frz_0 {p x d : Int} {f g h w : Nat → Int} : ¬ frz T n 0 (sRun p x d f g h w) := frz_n (by omega)
theorem RI_rc {na ke ko dq z ee : Int} (hz : z = 0) (hp : 0 ≤ p ∧ p ≤ 500) (hna : 0 ≤ na) (hx : 0 ≤ x ∧ x ≤ 300) (hd : 0 ≤ dq ∧ dq ≤ 3) (hM : MZ ix p x d h) (hP : PW P w) (hR : RCH T n 0 S0 (sRun p x d f g h w)) (q : RCM T n p x d f g h na ke ko eo dq f2 g2 h2 z ee) : RI T n S0 (ix + 1) ee x dq f2 g2 h2 na ke ko P := by
  rcases q with ⟨-, q1, q2, q3⟩ | ⟨-, q1, q2, q3⟩ | ⟨-, q1, q2, q3, q4, q5⟩ | ⟨q, -⟩
  · exact Or.inr (Or.inl ⟨q1, q2, w, hP, hR.sn frz_0 (q3 w)⟩)
  · exact Or.inr (Or.inr ⟨q2, hP.1, hR.sn frz_0 (q3 w)⟩)
  · refine Or.inl ⟨q1, q2, hx, hd, q4, ?_, w, hP, hR.sn frz_0 (q5 w)⟩
    rcases q3 with ⟨e1, e2, e3, e4, e5⟩ | ⟨e1, e2, e3, e4, e5⟩ | ⟨e1, e2, e3, e4, e5⟩
    · rw [e1, e5]
      exact MZ_again ⟨e2, e3⟩ hp.2 hna e4 hM
    · rw [e1, e4]
      exact MZ_leave (by omega) e5 hM
    · rw [e1, e4]
      exact MZ_rep ⟨e2, e3⟩ e5 hM
  · exact absurd hz (by omega)
theorem RI_pe {va ve vo dq z ee w0 z1 z2 z3 kq nb na ke ko : Int} (hz : z ≠ 0) (hP : PW P w) (hw : w0 = Pn P) (hR : RCH T n 0 S0 (sRun p x d f g h w)) (q : RCM T n p x d f g h va ve vo eo dq f2 g2 h2 z ee) (r : RDN T n z w0 va z1 z2 z3 kq nb na ke ko vo) (hk : ke ≠ 0) : RI T n S0 (ix + 1) ee x dq f2 g2 h2 na ke ko P := by
  obtain ⟨a1, a2, a3, a4, a5, a6, a7, a8, rfl, rfl, rfl, rfl⟩ := RCM_z hz q
  rcases r with ⟨y, -, -, -, -, -, -, -, r, -⟩ | ⟨r, -⟩
  · exact absurd r hk
  · have e := PW_n hP
    rw [hw, ← e, a5] at r
    exact Or.inr (Or.inr ⟨hk, hP.1, hR.sn frz_0 (stp_cmdE a3 ⟨a1, a2⟩ a4 r)⟩)
theorem RI_ex {va ve vo dq z ee w0 nb na ke ko eo2 : Int} {y : PAR} (hz : z ≠ 0) (hp : p ≤ n) (hM : MZ ix p x d h) (hx : 0 ≤ x) (hd : 0 ≤ d ∧ d ≤ 3) (hA : AV n d f g h) (hP : PW P w) (hw : w0 = Pn P) (hR : RCH T n 0 S0 (sRun p x d f g h w)) (q : RCM T n p x d f g h va ve vo eo dq f2 g2 h2 z ee)
    (r : prm T n z w0 va = .ok y) (hb : nb = y.2.2.2.2.1) (ha : na = y.2.2.2.2.2) (k : (∃ u, exe z y w = some u ∧ PW Q u ∧ ke = 0 ∧ ko = eo2) ∨ (exe z y w = none ∧ Q = P ∧ ke = 3 ∧ ko = nb)) : RI T n S0 (ix + 1) ee (x + 1) dq f2 g2 h2 na ke ko Q := by
  obtain ⟨a1, a2, a3, a4, a5, a6, a7, a8, rfl, rfl, rfl, rfl⟩ := RCM_z hz q
  have e := PW_n hP
  have ht := tok_r (T := T) hp
  rw [hw, ← e, a5] at r
  have hr := prm_r ⟨a1, a2⟩ (by omega) r
  rcases k with ⟨u, k1, k2, k3, k4⟩ | ⟨k1, k2, k3, k4⟩
  · refine Or.inl ⟨a6, k3, by omega, hd, hA, MZ_cmd (by omega) hM, u, k2, hR.sn frz_0 ?_⟩
    rw [ha]
    exact stp_cmdY a3 ⟨a1, a2⟩ a4 r k1
  · refine Or.inr (Or.inr ⟨by omega, by rw [k2]; exact hP.1, hR.sn frz_0 ?_⟩)
    rw [k3, k4, hb]
    exact stp_cmdN a3 ⟨a1, a2⟩ a4 r k1
theorem RI_0 {nb na nk ng v ke ko a b k u e o : Int} (hP : PI P) (h1 : nb = spE pSp T n 0 ∧ SCK T n nb v na nk ng) (h2 : (WD T nk nb na 0 ∧ ke = 0 ∧ ko = -1) ∨ (¬ WD T nk nb na 0 ∧ ke = 1 ∧ ko = nb)) (h3 : SIGS T n na nb nk ng ke ko a b k u e o 59) (ha : 0 ≤ a) : RI T n (scS T n f g h) 0 0 0 0 f g h a e o (0, PL P, 0, 0, Pa P, Pb P, Pd P) := by
  obtain ⟨h1, h4⟩ := h1
  have e1 : nb = toB T n 0 := h1
  rw [e1] at h4
  obtain ⟨e2, e3, -⟩ := SCK_f h4
  rcases h2 with ⟨c1, c2, c3⟩ | ⟨c1, c2, c3⟩
  · rw [e1, e2, e3] at c1
    have hL := exL_y c1
    subst c2
    rw [e2] at h3
    rcases SIGS_f h3 with ⟨r, r2, r3⟩ | ⟨r, r2⟩
    · rw [r] at hL
      refine Or.inl ⟨rfl, r2, by omega, by omega, fun j hj => absurd hj (by omega), MZ_0 ha, _, PW_clr hP, ?_⟩
      rw [scS_o hL]
      exact RCH.rf _
    · rw [r] at hL
      refine Or.inr (Or.inr ⟨r2, (PW_clr hP).1, ?_⟩)
      rw [scS_e hL]
      exact RCH.rf _
  · rw [e1, e2, e3] at c1
    have hL := exL_n c1
    obtain ⟨rfl, rfl⟩ := SIGS_e (by omega) h3
    refine Or.inr (Or.inr ⟨by omega, (PW_clr hP).1, ?_⟩)
    rw [scS_e hL, c2, c3, e1]
    exact RCH.rf _
end RI
