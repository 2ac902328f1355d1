/-! the reference's commands and repeats, along the machine -/
def AGR (D : Int) (f g h f2 g2 h2 : Nat → Int) : Prop := ∀ k : Nat, (k : Int) < D → f2 k = f k ∧ g2 k = g k ∧ h2 k = h k
theorem AGR.rf (D : Int) (f g h : Nat → Int) : AGR D f g h f g h := fun _ _ => ⟨rfl, rfl, rfl⟩
theorem AGR.tr {D : Int} {f g h f2 g2 h2 f3 g3 h3 : Nat → Int} (a : AGR D f g h f2 g2 h2) (b : AGR D f2 g2 h2 f3 g3 h3) : AGR D f g h f3 g3 h3 := fun k hk => ⟨(b k hk).1.trans (a k hk).1, (b k hk).2.1.trans (a k hk).2.1, (b k hk).2.2.trans (a k hk).2.2⟩
theorem AGR.mono {D E : Int} {f g h f2 g2 h2 : Nat → Int} (hDE : D ≤ E) (a : AGR E f g h f2 g2 h2) : AGR D f g h f2 g2 h2 := fun k hk => a k (by omega)
def BDY (T : Nat → Int) (n D p x : Int) (w : Nat → Int) (p2 x2 : Int) (u : Nat → Int) (ek eo : Int) : Prop :=
  (ek = 0 ∧ x ≤ x2 ∧ x2 ≤ 300 ∧ (x2 = x → u = w) ∧ ∀ f g h, ∃ f2 g2 h2, AGR D f g h f2 g2 h2 ∧ RCH T n D (sRun p x D f g h w) (sRun p2 x2 D f2 g2 h2 u)) ∨ (ek ≠ 0 ∧ ∀ f g h, RCH T n D (sRun p x D f g h w) (sBad ek eo))
section BD
variable {T : Nat → Int} {n D p x : Int} {w u v : Nat → Int} {p2 x2 p3 x3 ek eo c na : Int}
theorem BDY.rf (hx : x ≤ 300) {eo : Int} (T : Nat → Int) (n D p : Int) (w : Nat → Int) : BDY T n D p x w p x w 0 eo := Or.inl ⟨rfl, by omega, hx, fun _ => rfl, fun f g h => ⟨f, g, h, AGR.rf D f g h, RCH.rf _⟩⟩
theorem BDY.tr {e2 o2 : Int} (a : BDY T n D p x w p2 x2 u e2 o2) (he : e2 = 0) (b : BDY T n D p2 x2 u p3 x3 v ek eo) : BDY T n D p x w p3 x3 v ek eo := by
  rcases a with ⟨-, a1, a2, a3, a4⟩ | ⟨a, -⟩
  · rcases b with ⟨b0, b1, b2, b3, b4⟩ | ⟨b0, b1⟩
    · refine Or.inl ⟨b0, by omega, b2, fun q => ?_, fun f g h => ?_⟩
      · rw [b3 (by omega), a3 (by omega)]
      · obtain ⟨f2, g2, h2, c1, c2⟩ := a4 f g h
        obtain ⟨f3, g3, h3, d1, d2⟩ := b4 f2 g2 h2
        exact ⟨f3, g3, h3, c1.tr d1, c2.tr d2⟩
    · refine Or.inr ⟨b0, fun f g h => ?_⟩
      obtain ⟨f2, g2, h2, c1, c2⟩ := a4 f g h
      exact c2.tr (b1 f2 g2 h2)
  · exact absurd he a
theorem BDY_bad (he : ek ≠ 0) (hf : ∀ f g h, ¬ frz T n D (sRun p x D f g h w)) (hs : ∀ f g h, stp T n (sRun p x D f g h w) = sBad ek eo) : BDY T n D p x w p2 x2 u ek eo := Or.inr ⟨he, fun f g h => RCH.one (hf f g h) (hs f g h)⟩
theorem BDY_none (hk : ¬ (toK T n p = 0 ∧ D = 0)) (hs : ¬ (toK T n p = 3 ∧ T (toB T n p).toNat = 41 ∧ 0 < D)) (hc : cw T n p = 0) : BDY T n D p x w p2 x2 u 1 (toB T n p) :=
  BDY_bad (by omega) (fun f g h q => hs ⟨q.2.2.1, q.2.2.2, by have := q.1; omega⟩) (fun f g h => stp_none hk hs hc)
theorem frz_c {f g h : Nat → Int} {d : Int} (hc : cw T n p ≠ 0) : ¬ frz T n D (sRun p x d f g h w) := frz_k (by have := cw_1 hc; omega)
theorem BDY_many (hc : 1 ≤ cw T n p ∧ cw T n p ≤ 7) (hx : 300 ≤ x) : BDY T n D p x w p2 x2 u 5 (toB T n p) :=
  BDY_bad (by omega) (fun f g h => frz_c (by omega)) (fun f g h => stp_many hc hx)
theorem BDY_deep (hc : cw T n p = 8) (hD : D = 3) : BDY T n D p x w p2 x2 u 4 (toB T n p) :=
  BDY_bad (by omega) (fun f g h => frz_c (by omega)) (fun f g h => stp_deep hc hD)
theorem BDY_repN (hc : cw T n p = 8) (hD : D ≠ 3) (he : ek ≠ 0) (hr : exR T n (toE T n p) = .error (ek, eo)) : BDY T n D p x w p2 x2 u ek eo :=
  BDY_bad he (fun f g h => frz_c (by omega)) (fun f g h => stp_repN hc hD hr)
theorem BDY_one (hW : 1 ≤ c ∧ c ≤ 7) (hc : cw T n p = c) (hx : x < 300) (h : ONE T n c w (toE T n p) u na ek eo) : BDY T n D p x w na (x + 1) u ek eo := by
  rcases h with ⟨y, h1, ⟨h2, h3, h4⟩ | ⟨h2, h3, h4, h5⟩⟩ | ⟨h1, h2, h3⟩
  · refine Or.inl ⟨h3, by omega, by omega, fun q => by omega, fun f g h => ⟨f, g, h, AGR.rf D f g h, ?_⟩⟩
    rw [h4]
    exact RCH.one (frz_c (by omega)) (stp_cmdY hc hW hx h1 h2)
  · refine BDY_bad (by omega) (fun f g h => frz_c (by omega)) (fun f g h => ?_)
    rw [h4, h5]
    exact stp_cmdN hc hW hx h1 h2
  · exact BDY_bad h2 (fun f g h => frz_c (by omega)) (fun f g h => stp_cmdE hc hW hx h1)
theorem ONE_p (hp : p ≤ n) (hW : 1 ≤ c ∧ c ≤ 7) (h : ONE T n c w p u na ek eo) : ek ≠ 0 ∨ p < na := by
  rcases h with ⟨y, h1, ⟨h2, h3, h4⟩ | ⟨h2, h3, h4, h5⟩⟩ | ⟨h1, h2, h3⟩
  · have := prm_r hW hp h1
    omega
  · omega
  · omega
/-- what the reference's repeat holds on to: ix passes are through -/
def OI (T : Nat → Int) (n D p x : Int) (w : Nat → Int) (fi ti ix a x2 : Int) (u : Nat → Int) (ek eo : Int) : Prop :=
  (ek ≠ 0 ∧ ∀ f g h, RCH T n D (sRun p x D f g h w) (sBad ek eo)) ∨
  (ek = 0 ∧ x ≤ x2 ∧ x2 ≤ 300 ∧ (x2 = x → u = w) ∧
    ((ix < ti ∧ ∀ f g h, ∃ f2 g2 h2, AGR D f g h f2 g2 h2 ∧ f2 D.toNat = fi ∧ g2 D.toNat = ti - ix ∧ h2 D.toNat = x2 ∧ RCH T n D (sRun p x D f g h w) (sRun fi x2 (D + 1) f2 g2 h2 u)) ∨
     (∃ q, a = toE T n q ∧ q ≤ n ∧ toK T n q = 3 ∧ T (toB T n q).toNat = 41 ∧ (∀ f g h, ∃ f2 g2 h2, AGR D f g h f2 g2 h2 ∧ ¬ (1 < g2 D.toNat ∧ h2 D.toNat < x2) ∧ RCH T n D (sRun p x D f g h w) (sRun q x2 (D + 1) f2 g2 h2 u)) ∧
       (ix < ti → ∀ f g h, ∃ f2 g2 h2, RCH T n (D + 1) (sRun fi x2 (D + 1) f g h u) (sRun q x2 (D + 1) f2 g2 h2 u)))))
theorem OI_0 {fi ti a : Int} (hD : 0 ≤ D ∧ D < 3) (hx : 0 ≤ x ∧ x ≤ 300) (hc : cw T n p = 8) (hp : toE T n p ≤ n) (hr : exR T n (toE T n p) = .ok (ti, fi)) : OI T n D p x w fi ti 0 a x w 0 eo := by
  have hti : 1 ≤ ti ∧ ti ≤ 24 ∧ toE T n p < fi ∧ fi ≤ n := exR_r hp hr
  refine Or.inr ⟨rfl, by omega, hx.2, fun _ => rfl, Or.inl ⟨by omega, fun f g h => ⟨uI f D.toNat fi, uI g D.toNat ti, uI h D.toNat x, fun k hk => ?_, uI_s, by rw [uI_s]; omega, uI_s, RCH.one (frz_c (by omega)) (stp_repY hc (by omega) hr)⟩⟩⟩
  exact ⟨uI_n (by omega), uI_n (by omega), uI_n (by omega)⟩
theorem OI_step {fi ti ix a q2 a2 e2 o2 : Int} (hD : 0 ≤ D) (hix : ix < ti) (hp2 : ek = 0 → a2 = toE T n q2 ∧ q2 ≤ n ∧ toK T n q2 = 3 ∧ T (toB T n q2).toNat = 41) (h : OI T n D p x w fi ti ix a x2 u e2 o2) (he : e2 = 0) (b : BDY T n (D + 1) fi x2 u q2 x3 v ek eo) : OI T n D p x w fi ti (ix + 1) a2 x3 v ek eo := by
  have hDn : (D + 1 - 1).toNat = D.toNat := by omega
  rcases h with ⟨h, -⟩ | ⟨-, h1, h2, h3, h4⟩
  · exact absurd he h
  rcases h4 with ⟨-, m⟩ | ⟨q, m1, m2, m3, m4, m5, m6⟩
  · rcases b with ⟨b0, b1, b2, b3, b4⟩ | ⟨b0, b1⟩
    · obtain ⟨p1, p3, p4, p5⟩ := hp2 b0
      refine Or.inr ⟨b0, by omega, b2, fun k => by rw [b3 (by omega), h3 (by omega)], ?_⟩
      by_cases hc : 1 < ti - ix ∧ x2 < x3
      · refine Or.inl ⟨by omega, fun f g h => ?_⟩
        obtain ⟨f2, g2, h2', c1, c2, c3, c4, c5⟩ := m f g h
        obtain ⟨f3, g3, h3', d1, d2⟩ := b4 f2 g2 h2'
        have dD := d1 D.toNat (by omega)
        have e1 : f3 D.toNat = fi := dD.1.trans c2
        have e2 : g3 D.toNat = ti - ix := dD.2.1.trans c3
        have e3 : h3' D.toNat = x2 := dD.2.2.trans c4
        refine ⟨f3, uI g3 D.toNat (g3 D.toNat - 1), uI h3' D.toNat x3, ?_, e1, by rw [uI_s]; omega, uI_s, (c5.tr (d2.mono (by omega))).sn (frz_n (by omega)) ?_⟩
        · refine (c1.tr (d1.mono (by omega))).tr (fun k hk => ⟨rfl, uI_n (by omega), uI_n (by omega)⟩)
        · have hs := stp_again (x := x3) (d := D + 1) (f := f3) (g := g3) (h := h3') (w := v) p4 p5 (by omega) (by rw [hDn]; omega)
          rw [hDn, e1] at hs
          exact hs
      · refine Or.inr ⟨q2, p1, p3, p4, p5, fun f g h => ?_, fun hi => ?_⟩
        · obtain ⟨f2, g2, h2', c1, c2, c3, c4, c5⟩ := m f g h
          obtain ⟨f3, g3, h3', d1, d2⟩ := b4 f2 g2 h2'
          have dD := d1 D.toNat (by omega)
          have e2 : g3 D.toNat = ti - ix := dD.2.1.trans c3
          have e3 : h3' D.toNat = x2 := dD.2.2.trans c4
          exact ⟨f3, g3, h3', c1.tr (d1.mono (by omega)), by omega, c5.tr (d2.mono (by omega))⟩
        · have e : x3 = x2 := by omega
          have e2 := b3 e
          subst e
          subst e2
          intro f g h
          obtain ⟨f3, g3, h3', d1, d2⟩ := b4 f g h
          exact ⟨f3, g3, h3', d2⟩
    · refine Or.inl ⟨b0, fun f g h => ?_⟩
      obtain ⟨f2, g2, h2', c1, c2, c3, c4, c5⟩ := m f g h
      exact c5.tr ((b1 f2 g2 h2').mono (by omega))
  · have st := m6 hix
    rcases b with ⟨b0, b1, b2, b3, b4⟩ | ⟨b0, b1⟩
    · obtain ⟨p1, p3, p4, p5⟩ := hp2 b0
      obtain ⟨f2, g2, h2', s1⟩ := st w w w
      obtain ⟨f3, g3, h3', d1, d2⟩ := b4 w w w
      have e := s1.det ⟨by omega, by omega, m3, m4⟩ d2 ⟨by omega, by omega, p4, p5⟩
      have e1 : q = q2 := (Prod.mk.inj (Sum.inl.inj e)).1
      have e' := (Prod.mk.inj (Sum.inl.inj e)).2
      have e2 : x2 = x3 := (Prod.mk.inj e').1
      have e'' := (Prod.mk.inj (Prod.mk.inj (Prod.mk.inj (Prod.mk.inj (Prod.mk.inj e').2).2).2).2).2
      have e3 : u = v := e''
      subst e1
      subst e2
      subst e3
      exact Or.inr ⟨b0, h1, h2, h3, Or.inr ⟨q, p1, m2, m3, m4, m5, fun hi => st⟩⟩
    · exfalso
      obtain ⟨f2, g2, h2', s1⟩ := st w w w
      have e := s1.det ⟨by omega, by omega, m3, m4⟩ (b1 w w w) trivial
      cases e
theorem OI_end {fi ti ix a g ez eo2 z na nb nk ng : Int} (hD : 0 ≤ D) (hix : ¬ ix < ti) (h : OI T n D p x w fi ti ix a x2 u 0 eo) (hb : nb = spE pSp T n a) (hs : SCN T n nb g na nk ng) (he : ENR nk nb 0 eo 1 ez eo2 z) : BDY T n D p x w na x2 u ez eo2 ∧ (ez ≠ 0 ∨ a < na) := by
  have hDn : (D + 1 - 1).toNat = D.toNat := by omega
  rcases h with ⟨h, -⟩ | ⟨-, h1, h2, h3, h4⟩
  · exact absurd rfl h
  rcases h4 with ⟨h, -⟩ | ⟨q, m1, m2, m3, m4, m5, m6⟩
  · exact absurd h hix
  have hq := tok_r (T := T) m2
  have t := TR_sc (p := a) hb hs
  rcases END_f t he with ⟨r, ⟨c1, c2, c3, c4⟩ | ⟨c1, -⟩⟩ | ⟨r, r2, r3⟩
  · have hr := exS_r (by omega) r
    refine ⟨Or.inl ⟨c2, h1, h2, h3, fun f g h => ?_⟩, Or.inr (by have : a ≤ nb ∧ nb < na ∧ na ≤ n := hr; omega)⟩
    obtain ⟨f2, g2, h2', d1, d2, d3⟩ := m5 f g h
    rw [m1] at r
    have hs := stp_leaveY (x := x2) (d := D + 1) (f := f2) (g := g2) (h := h2') (w := u) m3 m4 (by omega) (by rw [hDn]; exact d2) r
    rw [hDn, show D + 1 - 1 = D by omega] at hs
    exact ⟨f2, uI g2 D.toNat (g2 D.toNat - 1), h2', d1.tr (fun k hk => ⟨rfl, uI_n (by omega), rfl⟩), d3.sn (frz_n (by omega)) hs⟩
  · omega
  · refine ⟨Or.inr ⟨r2, fun f g h => ?_⟩, Or.inl r2⟩
    obtain ⟨f2, g2, h2', d1, d2, d3⟩ := m5 f g h
    rw [m1] at r
    have hs := stp_leaveN (x := x2) (d := D + 1) (f := f2) (g := g2) (h := h2') (w := u) m3 m4 (by omega) (by rw [hDn]; exact d2) r
    exact d3.sn (frz_n (by omega)) hs
end BD
/-- what a script's command or repeat leaves alone -/
def KPC (M N : Nat → Int) : Prop := ∀ k, k < 12 ∨ k = 18 ∨ 25 < k → N k = M k
theorem KPC.rf (M : Nat → Int) : KPC M M := fun _ _ => rfl
theorem KPC.tr {M N K : Nat → Int} (h : KPC M N) (h2 : KPC N K) : KPC M K := fun k hk => (h2 k hk).trans (h k hk)
theorem KPC_u {M N : Nat → Int} {j : Nat} {v : Int} (hj : (11 < j ∧ j < 18) ∨ (18 < j ∧ j < 26)) (h : KPC M N) : KPC M (uI N j v) := fun k hk => (uI_n (by omega)).trans (h k hk)
theorem KPC_t {M N : Nat → Int} (h : KPT M N) : KPC M N := fun k hk => h k (by omega)
theorem KPC_d {M N : Nat → Int} {v : Int} (h : v = M 18) (k : KPC M N) : KPC M (uI N 18 v) := fun j hj => by
  by_cases e : j = 18
  · subst e; rw [uI_s]; exact h
  · rw [uI_n e]; exact k j hj
theorem KPC_d2 {M N : Nat → Int} {v x : Int} (h : x = M 18) (k : KPC (uI M 18 v) N) : KPC M (uI N 18 x) := fun j hj => by
  by_cases e : j = 18
  · subst e; rw [uI_s]; exact h
  · rw [uI_n e, k j hj, uI_n e]
theorem ISC {T M : Nat → Int} {n p z : Int} (t : TR T n p (M 20) (M 21) (M 22) (M 23)) (he : M 24 = 0) (q : (z = 1 ∧ ∃ i, 11 ≤ i ∧ i ≤ 17 ∧ W8 T M i) ∨ (z = 0 ∧ ∀ i, 11 ≤ i → i ≤ 17 → ¬ W8 T M i)) : (z = 1 ∧ 1 ≤ cw T n p ∧ cw T n p ≤ 7) ∨ (z = 0 ∧ ¬ (1 ≤ cw T n p ∧ cw T n p ≤ 7)) := by
  rcases q with ⟨a, i, h1, h2, h3⟩ | ⟨a, h⟩
  · have e := (CWi t he (i - 10) (by omega)).1 (by rw [show i - 10 + 10 = i by omega]; exact h3)
    exact Or.inl ⟨a, by omega, by omega⟩
  · refine Or.inr ⟨a, fun c => h ((cw T n p).toNat + 10) (by omega) (by omega) ?_⟩
    exact (CWi t he (cw T n p).toNat (by omega)).2 (by omega)
theorem BDY_eq {T : Nat → Int} {n D p x p2 x2 ek eo x3 e3 o3 : Int} {w u : Nat → Int} (h : BDY T n D p x w p2 x2 u ek eo) (h1 : x3 = x2) (h2 : e3 = ek) (h3 : o3 = eo) : BDY T n D p x w p2 x3 u e3 o3 := by
  rw [h1, h2, h3]; exact h
theorem ADV_f {T : Nat → Int} {n e a b k g na nb nk ng : Int} (he : e = 0) (q : (e = 0 ∧ nb = spE pSp T n a ∧ SCN T n nb g na nk ng) ∨ (e ≠ 0 ∧ na = a ∧ nb = b ∧ nk = k ∧ ng = g)) : TR T n a na nb nk ng := by
  rcases q with ⟨-, q1, q2⟩ | ⟨q, -⟩
  · exact TR_sc q1 q2
  · exact absurd he q
theorem ADV_k {T : Nat → Int} {n e a b k g na nb nk ng : Int} (q : (e = 0 ∧ nb = spE pSp T n a ∧ SCN T n nb g na nk ng) ∨ (e ≠ 0 ∧ na = a ∧ nb = b ∧ nk = k ∧ ng = g)) (ha : a ≤ n) (hk : 0 ≤ k ∧ k ≤ 6) : (0 ≤ nk ∧ nk ≤ 6) ∧ (e = 0 → a ≤ nb ∧ nb ≤ na) := by
  rcases q with ⟨-, q1, q2⟩ | ⟨q, -, -, q1, -⟩
  · have := TR_r ha (TR_sc q1 q2)
    exact ⟨by omega, fun _ => by omega⟩
  · exact ⟨by omega, fun h => absurd h q⟩
section RP
variable {T : Nat → Int} {n D p x : Int} {w u : Nat → Int} {a b k g na nb nk ng : Int}
theorem EXR {q ti a2 b2 k2 g2 e2 o2 e3 o3 o : Int} (t : TR T n q a b k g) (h : NUR T n a b k g 0 o a2 b2 k2 g2 e2 o2 1 24 ti) (r : (e2 = 0 ∧ k2 = 5 ∧ e3 = 0 ∧ o3 = o2) ∨ (e2 = 0 ∧ k2 ≠ 5 ∧ e3 = 1 ∧ o3 = b2) ∨ (e2 ≠ 0 ∧ e3 = e2 ∧ o3 = o2)) : (e3 = 0 ∧ exR T n q = .ok (ti, a2)) ∨ (e3 ≠ 0 ∧ exR T n q = .error (e3, o3)) := by
  unfold exR
  rcases NUR_f t h with ⟨s, s2, s3, s4⟩ | ⟨s, s2⟩
  · rw [s]
    obtain ⟨t1, t2, t3, t4⟩ := s4
    have hk := KR_n _ _ t3
    by_cases c : k2 = 5
    · refine Or.inl ⟨by omega, ?_⟩
      show (exS T n 40 a).bind _ = _
      rw [exS_y (by omega), ← t1, ← t2]
      rfl
    · refine Or.inr ⟨by omega, ?_⟩
      show (exS T n 40 a).bind _ = _
      rw [exS_n (by omega), ← t2, show e3 = 1 by omega, show o3 = b2 by omega]
      rfl
  · rw [s]
    refine Or.inr ⟨by omega, ?_⟩
    rw [show e3 = e2 by omega, show o3 = o2 by omega]
    rfl
theorem OI_i {fi ti e3 o3 c : Int} (hD : 0 ≤ D ∧ D < 3) (hx : 0 ≤ x ∧ x ≤ 300) (hc : cw T n p = 8) (hp : p ≤ n) (hq : c = toE T n p) (h : (e3 = 0 ∧ exR T n c = .ok (ti, fi)) ∨ (e3 ≠ 0 ∧ exR T n c = .error (e3, o3))) : OI T n D p x w fi ti 0 a x w e3 o3 := by
  have ht := tok_r (T := T) hp
  subst hq
  rcases h with ⟨rfl, h⟩ | ⟨h1, h⟩
  · exact OI_0 hD hx hc (by omega) h
  · exact Or.inl ⟨h1, fun f g h2 => RCH.one (frz_c (by omega)) (stp_repN hc (by omega) h)⟩
theorem OI_x {fi ti ix x2 ek eo : Int} (he : ek = 0) (h : OI T n D p x w fi ti ix a x2 u ek eo) : x2 ≤ 300 := by
  rcases h with ⟨h, -⟩ | ⟨-, -, h, -⟩
  · exact absurd he h
  · exact h
theorem BDY_x {p2 x2 ek eo : Int} (h : BDY T n D p x w p2 x2 u ek eo) : ek ≠ 0 ∨ x2 ≤ 300 := by
  rcases h with ⟨-, -, h, -⟩ | ⟨h, -⟩
  · exact Or.inr h
  · exact Or.inl h
theorem NUR_a {e o ek eo lo hi r : Int} (q : NUR T n a b k g e o na nb nk ng ek eo lo hi r) (ha : a ≤ n) : a ≤ na := by
  rcases q with ⟨-, -, -, -, -, h1, h2⟩ | ⟨-, -, -, -, h1, -⟩ | ⟨-, -, -, -, h1, -⟩
  · have := TR_r (p := a) ha (TR_sc h1 h2)
    omega
  · omega
  · omega
theorem RP_end {fi ti ix x2 ek eo ez eo2 z : Int} (hD : 0 ≤ D) (h : OI T n D p x w fi ti ix a x2 u ek eo) (hix : ¬ ix < ti ∨ ek ≠ 0) (q : (ek = 0 ∧ nb = spE pSp T n a ∧ SCN T n nb g na nk ng) ∨ (ek ≠ 0 ∧ na = a ∧ nb = b ∧ nk = k ∧ ng = g)) (r : ENR nk nb ek eo 1 ez eo2 z) : BDY T n D p x w na x2 u ez eo2 ∧ (ez ≠ 0 ∨ a < na) := by
  by_cases c : ek = 0
  · subst c
    rcases q with ⟨-, q1, q2⟩ | ⟨q, -⟩
    · exact OI_end hD (by omega) h q1 q2 r
    · exact absurd rfl q
  · obtain ⟨rfl, rfl, -⟩ := END_e c r
    rcases h with ⟨-, h⟩ | ⟨h, -⟩
    · exact ⟨Or.inr ⟨c, h⟩, Or.inl c⟩
    · exact absurd h c
end RP
/-- what is left to a pass of the reference -/
def MS (e q n : Int) : Nat := if e = 0 then (n - q).toNat + 1 else 0
theorem MS_lt {e q n e2 q2 : Int} {k : Nat} (he : e = 0) (h : e2 ≠ 0 ∨ (q < q2 ∧ q2 ≤ n)) (hn : MS e q n < k + 1) : MS e2 q2 n < k := by
  unfold MS at hn ⊢
  rw [if_pos he] at hn
  by_cases c : e2 = 0
  · rw [if_pos c]; omega
  · rw [if_neg c]; omega
theorem TR_cl {T : Nat → Int} {n p a b k g : Int} (t : TR T n p a b k g) (hk : k = 6) : toK T n p = 3 ∧ T (toB T n p).toNat = 41 := by
  have h := KR_n _ _ t.2.2.1
  exact h.2.2.2.2.2.1.1 hk
theorem TR_ncl {T : Nat → Int} {n p a b k g d : Int} (t : TR T n p a b k g) (hk : k ≠ 6) : ¬ (toK T n p = 3 ∧ T (toB T n p).toNat = 41 ∧ 0 < d) := fun q => hk ((KR_n _ _ t.2.2.1).2.2.2.2.2.1.2 ⟨q.1, q.2.1⟩)
theorem TR_nend {T : Nat → Int} {n p a b k g d : Int} (t : TR T n p a b k g) (hk : k ≠ 0) : ¬ (toK T n p = 0 ∧ d = 0) := fun q => hk ((KR_n _ _ t.2.2.1).1.2 q.1)
