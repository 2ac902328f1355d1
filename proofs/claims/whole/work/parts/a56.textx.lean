/-! a text beyond its end says nothing -/
theorem ty4_x {T U : Nat → Int} {n x : Int} (h0 : 0 ≤ n) (h : ∀ k : Nat, (k : Int) < n → T k = U k) : ∀ k : Nat, (k : Int) < n + 4 → ty4 T n x k = ty4 U n x k := by
  intro k hk
  unfold ty4
  by_cases c3 : k = (n + 3).toNat
  · rw [c3, uI_s, uI_s]
  rw [uI_n c3, uI_n c3]
  by_cases c2 : k = (n + 2).toNat
  · rw [c2, uI_s, uI_s]
  rw [uI_n c2, uI_n c2]
  by_cases c1 : k = (n + 1).toNat
  · rw [c1, uI_s, uI_s]
  rw [uI_n c1, uI_n c1]
  by_cases c0 : k = n.toNat
  · rw [c0, uI_s, uI_s]
  rw [uI_n c0, uI_n c0]
  exact h k (by omega)
theorem ap5_x {T U : Nat → Int} {n a b c d e : Int} (h0 : 0 ≤ n) (h : ∀ k : Nat, (k : Int) < n → T k = U k) : ∀ k : Nat, (k : Int) < n + 20 → ap5 T n a b c d e k = ap5 U n a b c d e k := by
  intro k hk
  have e1 := ty4_x (x := a) h0 h
  have e2 := ty4_x (x := b) (by omega) e1
  rw [show n + 4 + 4 = n + 8 by omega] at e2
  have e3 := ty4_x (x := c) (by omega) e2
  rw [show n + 8 + 4 = n + 12 by omega] at e3
  have e4 := ty4_x (x := d) (by omega) e3
  rw [show n + 12 + 4 = n + 16 by omega] at e4
  have e5 := ty4_x (x := e) (by omega) e4
  exact e5 k (by omega)
section TXX
variable {T U : Nat → Int} {n : Int}
theorem spn_x {p : Int → Prop} [DecidablePred p] (hn : 1 ≤ n) (h : ∀ k : Nat, (k : Int) < n → T k = U k) : ∀ (k : Nat) (x : Int), spn p T n k x = spn p U n k x
  | 0, _ => rfl
  | k + 1, x => by
    show (if x < n ∧ p (T x.toNat) then spn p T n k (x + 1) else x) = (if x < n ∧ p (U x.toNat) then spn p U n k (x + 1) else x)
    by_cases c : x < n
    · rw [h x.toNat (by omega), spn_x hn h k]
    · rw [if_neg (fun q => c q.1), if_neg (fun q => c q.1)]
theorem fgn_x {fr : Int} (hn : 1 ≤ n) (h : ∀ k : Nat, (k : Int) < n → T k = U k) : ∀ (k : Nat) (x f : Int), fgn T n fr k x f = fgn U n fr k x f
  | 0, _, _ => rfl
  | k + 1, x, f => by
    show (if x < n ∧ pDi (T x.toNat) then fgn T n fr k (x + 1) (if x - fr < 7 then 10 * f + T x.toNat - 48 else f) else f) = (if x < n ∧ pDi (U x.toNat) then fgn U n fr k (x + 1) (if x - fr < 7 then 10 * f + U x.toNat - 48 else f) else f)
    by_cases c : x < n
    · rw [h x.toNat (by omega), fgn_x hn h k]
    · rw [if_neg (fun q => c q.1), if_neg (fun q => c q.1)]
theorem toB_x (hn : 1 ≤ n) (h : ∀ k : Nat, (k : Int) < n → T k = U k) (p : Int) : toB T n p = toB U n p := spn_x hn h _ _
theorem toE_x (hn : 1 ≤ n) (h : ∀ k : Nat, (k : Int) < n → T k = U k) (p : Int) : toE T n p = toE U n p := by
  have b := toB_x hn h p
  unfold toE
  rw [b]
  by_cases c : toB U n p < n
  · rw [if_pos c, if_pos c, h (toB U n p).toNat (by omega)]
    unfold spE
    rw [spn_x (p := pLe) hn h, spn_x (p := pDi) hn h]
  · rw [if_neg c, if_neg c]
theorem toK_x (hn : 1 ≤ n) (h : ∀ k : Nat, (k : Int) < n → T k = U k) (p : Int) : toK T n p = toK U n p := by
  have b := toB_x hn h p
  have e := toE_x hn h p
  unfold toK
  rw [b, e]
  by_cases c : toB U n p < n
  · rw [if_pos c, if_pos c, h (toB U n p).toNat (by omega)]
  · rw [if_neg c, if_neg c]
theorem toG_x (hn : 1 ≤ n) (h : ∀ k : Nat, (k : Int) < n → T k = U k) (p : Int) : toG T n p = toG U n p := by
  unfold toG fgE
  rw [toB_x hn h p, fgn_x hn h]
theorem sgn_x (hn : 1 ≤ n) (h : ∀ k : Nat, (k : Int) < n → T k = U k) (p x : Int) : (toK T n p = 3 ∧ T (toB T n p).toNat = x) ↔ (toK U n p = 3 ∧ U (toB U n p).toNat = x) := by
  rw [toK_x hn h p, toB_x hn h p]
  by_cases c : toB U n p < n
  · rw [h (toB U n p).toNat (by omega)]
  · have e := (te_0 c).2
    rw [e]
    exact ⟨fun q => absurd q.1 (by omega), fun q => absurd q.1 (by omega)⟩
theorem WD_x (hn : 1 ≤ n) (h : ∀ k : Nat, (k : Int) < n → T k = U k) {p : Int} (hp : 0 ≤ p ∧ p ≤ n) (i : Nat) : WD T (toK T n p) (toB T n p) (toE T n p) i ↔ WD U (toK U n p) (toB U n p) (toE U n p) i := by
  rw [toK_x hn h p, toB_x hn h p, toE_x hn h p]
  have r := (tok_r (T := U) (n := n) hp.2).1
  have g : ∀ k : Nat, (k : Int) < toE U n p - toB U n p → T ((toB U n p).toNat + k) = U ((toB U n p).toNat + k) := fun k hk => h _ (by omega)
  constructor
  · rintro ⟨q1, q2, q3⟩
    exact ⟨q1, q2, fun k hk => by rw [← g k (by omega)]; exact q3 k hk⟩
  · rintro ⟨q1, q2, q3⟩
    exact ⟨q1, q2, fun k hk => by rw [g k (by omega)]; exact q3 k hk⟩
theorem cw_x (hn : 1 ≤ n) (h : ∀ k : Nat, (k : Int) < n → T k = U k) {p : Int} (hp : 0 ≤ p ∧ p ≤ n) : cw T n p = cw U n p := by
  refine cw_f ?_
  rcases cw_c U n p with ⟨a1, a2, a3⟩ | ⟨a1, a2⟩
  · exact Or.inl ⟨a1, a2, (WD_x hn h hp _).mpr a3⟩
  · exact Or.inr ⟨a1, fun i h1 h2 q => a2 i h1 h2 ((WD_x hn h hp _).mp q)⟩
theorem exN_x (hn : 1 ≤ n) (h : ∀ k : Nat, (k : Int) < n → T k = U k) (lo hi p : Int) : exN T n lo hi p = exN U n lo hi p := by
  unfold exN
  rw [toK_x hn h p, toG_x hn h p, toE_x hn h p, toB_x hn h p]
theorem exS_x (hn : 1 ≤ n) (h : ∀ k : Nat, (k : Int) < n → T k = U k) (x p : Int) : exS T n x p = exS U n x p := by
  by_cases c : toK U n p = 3 ∧ U (toB U n p).toNat = x
  · rw [exS_y c, exS_y ((sgn_x hn h p x).mpr c), toE_x hn h p, toB_x hn h p]
  · rw [exS_n c, exS_n (fun q => c ((sgn_x hn h p x).mp q)), toB_x hn h p]
theorem exK_x (hn : 1 ≤ n) (h : ∀ k : Nat, (k : Int) < n → T k = U k) {p : Int} (hp : 0 ≤ p ∧ p ≤ n) : exK T n p = exK U n p := by
  unfold exK
  by_cases c : WD U (toK U n p) (toB U n p) (toE U n p) 9
  · rw [if_pos c, if_pos ((WD_x hn h hp 9).mpr c), toE_x hn h p, exS_x hn h]
  · rw [if_neg c, if_neg (fun q => c ((WD_x hn h hp 9).mp q)), exS_x hn h]
theorem bnd_x {ε α β : Type} {x : Except ε α} {f g : α → Except ε β} (e : ∀ a, x = .ok a → f a = g a) : x.bind f = x.bind g := by
  cases x with
  | error y => rfl
  | ok a => exact e a rfl
theorem exR_x (hn : 1 ≤ n) (h : ∀ k : Nat, (k : Int) < n → T k = U k) (p : Int) : exR T n p = exR U n p := by
  unfold exR
  rw [exN_x hn h]
  exact bnd_x fun a _ => by rw [exS_x hn h]
theorem exL_x (hn : 1 ≤ n) (h : ∀ k : Nat, (k : Int) < n → T k = U k) : exL T n = exL U n := by
  unfold exL
  by_cases c : WD U (toK U n 0) (toB U n 0) (toE U n 0) 0
  · rw [if_pos c, if_pos ((WD_x hn h (by omega) 0).mpr c), toE_x hn h, exS_x hn h]
  · rw [if_neg c, if_neg (fun q => c ((WD_x hn h (by omega) 0).mp q)), toB_x hn h]
theorem prm_x (hn : 1 ≤ n) (h : ∀ k : Nat, (k : Int) < n → T k = U k) {c w0 p : Int} (hp : 0 ≤ p ∧ p ≤ n) : prm T n c w0 p = prm U n c w0 p := by
  unfold prm
  rw [exN_x hn h 1 9999999 p, exN_x hn h 0 (w0 - 1) p, exS_x hn h 59 p]
  have eS : ∀ q : Int, exS T n 59 q = exS U n 59 q := exS_x hn h 59
  have eN : ∀ lo hi q : Int, exN T n lo hi q = exN U n lo hi q := exN_x hn h
  by_cases c1 : c = 1
  · rw [if_pos c1, if_pos c1]
    refine bnd_x fun a _ => ?_
    rw [eN]
    refine bnd_x fun b _ => ?_
    rw [eN]
    refine bnd_x fun d _ => ?_
    rw [eS]
  rw [if_neg c1, if_neg c1]
  by_cases c3 : c = 3
  · rw [if_pos c3, if_pos c3]
  rw [if_neg c3, if_neg c3]
  by_cases c4 : c = 4
  · rw [if_pos c4, if_pos c4]
    refine bnd_x fun a ha => ?_
    have r1 := exN_r hp.2 ha
    rw [eN]
    refine bnd_x fun b hb => ?_
    have r2 := exN_r (by omega) hb
    rw [exK_x hn h (p := b.2) (by omega)]
  rw [if_neg c4, if_neg c4]
  by_cases c6 : c = 6
  · rw [if_pos c6, if_pos c6]
    refine bnd_x fun a _ => ?_
    rw [eN]
    refine bnd_x fun b _ => ?_
    rw [eS]
  rw [if_neg c6, if_neg c6]
  by_cases c7 : c = 7
  · rw [if_pos c7, if_pos c7]
    refine bnd_x fun a _ => ?_
    rw [eN]
    refine bnd_x fun b _ => ?_
    rw [eS]
  rw [if_neg c7, if_neg c7]
  refine bnd_x fun a _ => ?_
  rw [eS]
end TXX
/-- the places of a machine lie in the text -/
def NN (n : Int) : SS → Prop
  | Sum.inl (p, _, d, f, _, _, _) => (0 ≤ p ∧ p ≤ n) ∧ ∀ j : Nat, (j : Int) < d → 0 ≤ f j ∧ f j ≤ n
  | Sum.inr _ => True
theorem NN_run {T : Nat → Int} {n p x d : Int} {f g h w : Nat → Int} (hp : 0 ≤ p ∧ p ≤ n) (hf : ∀ j : Nat, (j : Int) < d → 0 ≤ f j ∧ f j ≤ n) : NN n (stp T n (sRun p x d f g h w)) := by
  obtain ⟨⟨t1, t2, t3⟩, -, -⟩ := tok_r (T := T) hp.2
  have hcw := cw_r T n p
  show NN n (if toK T n p = 0 ∧ d = 0 then sFin w else if toK T n p = 3 ∧ T (toB T n p).toNat = 41 ∧ 0 < d then _ else _)
  split
  · exact trivial
  split
  · rename_i c1 c2
    split
    · exact ⟨hf _ (by omega), hf⟩
    · cases e : exS T n 59 (toE T n p) with
      | error z => exact trivial
      | ok z =>
        have r := exS_r t3 e
        exact ⟨⟨by show 0 ≤ z.2; omega, r.2.2⟩, fun j hj => hf j (by omega)⟩
  split
  · exact trivial
  split
  · split
    · exact trivial
    · cases e : exR T n (toE T n p) with
      | error z => exact trivial
      | ok z =>
        have r := exR_r t3 e
        refine ⟨⟨by show 0 ≤ z.2; omega, r.2.2.2⟩, fun j hj => ?_⟩
        show 0 ≤ uI f d.toNat z.2 j ∧ uI f d.toNat z.2 j ≤ n
        by_cases c : j = d.toNat
        · rw [c, uI_s]; exact ⟨by omega, r.2.2.2⟩
        · rw [uI_n c]; exact hf j (by omega)
  split
  · exact trivial
  · rename_i c1 c2 c3 c4 c5
    cases e : prm T n (cw T n p) (w 0) (toE T n p) with
    | error z => exact trivial
    | ok y =>
      have hr := prm_r (by omega) t3 e
      show NN n (match exe (cw T n p) y w with | none => sBad 3 y.2.2.2.2.1 | some v => sRun y.2.2.2.2.2 (x + 1) d f g h v)
      cases e2 : exe (cw T n p) y w with
      | none => exact trivial
      | some v => exact ⟨⟨by show 0 ≤ y.2.2.2.2.2; omega, hr.1.2⟩, hf⟩
theorem NN_stp {T : Nat → Int} {n : Int} : ∀ S : SS, NN n S → NN n (stp T n S)
  | Sum.inl (_, _, _, _, _, _, _), h => NN_run h.1 h.2
  | Sum.inr (Sum.inl _), _ => trivial
  | Sum.inr (Sum.inr (_, _)), _ => trivial
theorem NN_0 {T : Nat → Int} {n : Int} {f g h : Nat → Int} (hn : 0 ≤ n) : NN n (scS T n f g h) := by
  cases e : exL T n with
  | error z => rw [scS_e e]; exact trivial
  | ok q =>
    rw [scS_o e]
    have t := (tok_r (T := T) hn).1
    have r : 0 ≤ q.2 ∧ q.2 ≤ n := by
      by_cases c : WD T (toK T n 0) (toB T n 0) (toE T n 0) 0
      · rw [exL_y c] at e
        have r := exS_r t.2.2 e
        omega
      · rw [exL_n c] at e; cases e
    exact ⟨r, fun j hj => absurd hj (by omega)⟩
section TXY
variable {T U : Nat → Int} {n : Int}
theorem stp_x (hn : 1 ≤ n) (h : ∀ k : Nat, (k : Int) < n → T k = U k) : ∀ S : SS, NN n S → stp T n S = stp U n S
  | Sum.inr (Sum.inl _), _ => rfl
  | Sum.inr (Sum.inr (_, _)), _ => rfl
  | Sum.inl (p, x, d, f, g, h', w), q => by
    have r := (tok_r (T := U) (n := n) q.1.2).1
    have hp := q.1
    have c41 := sgn_x hn h p 41
    have e41 : (toK T n p = 3 ∧ T (toB T n p).toNat = 41 ∧ 0 < d) = (toK U n p = 3 ∧ U (toB U n p).toNat = 41 ∧ 0 < d) := propext ⟨fun z => by have := c41.mp ⟨z.1, z.2.1⟩; exact ⟨this.1, this.2, z.2.2⟩, fun z => by have := c41.mpr ⟨z.1, z.2.1⟩; exact ⟨this.1, this.2, z.2.2⟩⟩
    unfold stp
    simp only [e41]
    rw [toK_x hn h p, toE_x hn h p, toB_x hn h p, cw_x hn h hp, exS_x hn h, exR_x hn h, prm_x hn h (p := toE U n p) (by omega)]
theorem frz_x (hn : 1 ≤ n) (h : ∀ k : Nat, (k : Int) < n → T k = U k) {D : Int} : ∀ S : SS, frz T n D S → frz U n D S
  | Sum.inr _, _ => trivial
  | Sum.inl (p, _, d, _, _, _, _), q => by
    have c := (sgn_x hn h p 41).mp q.2.2
    exact ⟨q.1, q.2.1, c⟩
theorem RCk_x (hn : 1 ≤ n) (h : ∀ k : Nat, (k : Int) < n → T k = U k) {D : Int} {A : SS} : ∀ (k : Nat) (S : SS), NN n S → RCk T n D k S A → RCk U n D k S A
  | 0, _, _, r => r
  | k + 1, S, q, r => ⟨fun z => r.1 (frz_x hn (fun k hk => (h k hk).symm) S z), by
    have e := stp_x hn h S q
    have r2 := RCk_x hn h k (stp T n S) (NN_stp S q) r.2
    rw [e] at r2
    exact r2⟩
theorem RCk_bad {D ke ko : Int} {A : SS} : ∀ k : Nat, RCk T n D k (sBad ke ko) A → A = sBad ke ko
  | 0, r => Eq.symm r
  | k + 1, r => absurd trivial r.1
theorem scS_z (hn : n = 0) {f g h : Nat → Int} : scS T n f g h = sBad 1 0 := by
  subst hn
  have hb : toB T 0 0 = 0 := rfl
  have hk : toK T 0 0 = 0 := by
    unfold toK
    rw [hb]
    exact if_neg (by omega)
  refine scS_e (e := (1, 0)) ?_
  rw [exL_n (fun q => by have := q.1; omega), hb]
theorem RCH_x (h0 : 0 ≤ n) (h : ∀ k : Nat, (k : Int) < n → T k = U k) {f g h' : Nat → Int} {A : SS} (r : RCH T n 0 (scS T n f g h') A) : RCH U n 0 (scS U n f g h') A := by
  by_cases c : n = 0
  · rw [scS_z c] at r ⊢
    obtain ⟨k, r⟩ := r
    rw [RCk_bad k r]
    exact RCH.rf _
  · have hn : 1 ≤ n := by omega
    have e : scS T n f g h' = scS U n f g h' := by
      unfold scS
      rw [exL_x hn h]
    obtain ⟨k, r⟩ := r
    have q := RCk_x hn h k _ (NN_0 h0) r
    rw [e] at q
    exact ⟨k, q⟩
theorem SRO_x {ke ko : Int} {u : Nat → Int} (h0 : 0 ≤ n) (h : ∀ k : Nat, (k : Int) < n → T k = U k) (r : SRO T n ke ko u) : SRO U n ke ko u := by
  rcases r with ⟨r1, r2⟩ | ⟨r1, r2⟩
  · exact Or.inl ⟨r1, fun f g h' => RCH_x h0 h (r2 f g h')⟩
  · exact Or.inr ⟨r1, fun f g h' => RCH_x h0 h (r2 f g h')⟩
end TXY
