theorem dgU_s {v u n : Int} (hn : 1 ≤ n) : dgU v n.toNat u = (48 + v / u % 10) :: dgU v (n - 1).toNat (u / 10) := by
  rw [show n.toNat = (n - 1).toNat + 1 by omega]
  rfl
theorem dgs_n {v u n : Int} (h0 : 0 ≤ v) (h1 : v ≤ 99999999) (hu : UN u n) (hn : 1 ≤ n) (hl : u = 1 ∨ u ≤ v) (hr : v / 10 < u) : n = dgN v := by
  have h := congrArg List.length (dgs_u h0 h1 hu hn hl hr)
  rw [dgU_len] at h
  have h2 := dgs_len v
  omega
theorem wr_s {C : Nat → Int} {q c : Int} {l : List Int} : wrL (uI C q.toNat c) (q + 1) l = wrL C q (c :: l) := rfl
def pmF (a it cl : Int) : List Int := pmL a it (cl = 1)
def pmN (a it cl : Int) : Int := (pmF a it cl).length
theorem pmN_r (a it cl : Int) : 0 ≤ pmN a it cl ∧ pmN a it cl ≤ 18 := by
  have h : ((pmF a it cl).length : Int) ≤ 18 := pmL_len a it (cl = 1)
  unfold pmN
  omega
theorem pm_n {a it : Int} {q : Int} {l : List Int} (hl : (l.length : Int) = q) {cl : Int} (e : pmF a it cl = dgs a ++ l) : pmN a it cl = dgN a + q := by
  have h := dgs_len a
  unfold pmN
  rw [e, List.length_append]
  omega
theorem pm_w {B : Nat → Int} {n a it cl : Int} {l : List Int} (e : pmF a it cl = dgs a ++ l) : wrL B n (pmF a it cl) = wrL (wrL B n (dgs a)) (n + dgN a) l := by
  rw [e, wrL_app, dgs_len]
theorem pm_nn {a it cl : Int} (h : it = 0) (hc : cl = 0) : pmF a it cl = dgs a ++ [] := by
  unfold pmF pmL
  rw [if_neg (by omega), if_neg (by omega)]
  rfl
theorem pm_ny {a it cl : Int} (h : it = 0) (hc : cl = 1) : pmF a it cl = dgs a ++ [33] := by
  unfold pmF pmL
  rw [if_neg (by omega), if_pos hc]
  rfl
theorem pm_yn {a it cl : Int} (h : it ≠ 0) (hc : cl = 0) : pmF a it cl = dgs a ++ (43 :: dgs it) := by
  unfold pmF pmL
  rw [if_pos h, if_neg (by omega), List.append_nil]
theorem pm_yy {a it cl : Int} (h : it ≠ 0) (hc : cl = 1) : pmF a it cl = dgs a ++ (43 :: (dgs it ++ [33])) := by
  unfold pmF pmL
  rw [if_pos h, if_pos hc]
  rfl
theorem pmW_nn {B : Nat → Int} {n a it cl : Int} (h : it = 0) (hc : cl = 0) : wrL B n (dgs a) = wrL B n (pmF a it cl) ∧ n + dgN a = n + pmN a it cl := by
  have e := pm_nn (a := a) h hc
  refine ⟨(pm_w e).symm, ?_⟩
  rw [pm_n (q := 0) rfl e]; omega
theorem pmW_ny {B : Nat → Int} {n a it cl : Int} (h : it = 0) (hc : cl = 1) : uI (wrL B n (dgs a)) (n + dgN a).toNat 33 = wrL B n (pmF a it cl) ∧ n + dgN a + 1 = n + pmN a it cl := by
  have e := pm_ny (a := a) h hc
  refine ⟨(pm_w e).symm, ?_⟩
  rw [pm_n (q := 1) rfl e]; omega
theorem pmW_yn {B : Nat → Int} {n a it cl : Int} (h : it ≠ 0) (hc : cl = 0) : wrL (uI (wrL B n (dgs a)) (n + dgN a).toNat 43) (n + dgN a + 1) (dgs it) = wrL B n (pmF a it cl) ∧ n + dgN a + 1 + dgN it = n + pmN a it cl := by
  have e := pm_yn (a := a) h hc
  have hd := dgs_len it
  refine ⟨(pm_w e).symm, ?_⟩
  rw [pm_n (q := 1 + dgN it) (by rw [List.length_cons]; omega) e]; omega
theorem pmW_yy {B : Nat → Int} {n a it cl : Int} (h : it ≠ 0) (hc : cl = 1) : uI (wrL (uI (wrL B n (dgs a)) (n + dgN a).toNat 43) (n + dgN a + 1) (dgs it)) (n + dgN a + 1 + dgN it).toNat 33 = wrL B n (pmF a it cl) ∧ n + dgN a + 1 + dgN it + 1 = n + pmN a it cl := by
  have e := pm_yy (a := a) h hc
  have hd := dgs_len it
  refine ⟨?_, ?_⟩
  · rw [pm_w e]
    show _ = wrL (uI (wrL B n (dgs a)) (n + dgN a).toNat 43) (n + dgN a + 1) (dgs it ++ [33])
    rw [wrL_app, hd]
    rfl
  · rw [pm_n (q := 1 + dgN it + 1) (by rw [List.length_cons, List.length_append]; simp only [List.length_cons, List.length_nil]; omega) e]; omega
theorem pm_t {a it : Int} {c : Prop} [Decidable c] {cl : Int} (h : (c ∧ cl = 1) ∨ (¬ c ∧ cl = 0)) : pmL a it c = pmF a it cl := by
  unfold pmF pmL
  rcases h with ⟨h1, h2⟩ | ⟨h1, h2⟩
  · rw [if_pos h1, if_pos h2]
  · rw [if_neg h1, if_neg (show ¬ cl = 1 by omega)]
def schN (k : Nat) (ix : Int) (L : Nat → Int) : Int := (schL k ix L).length
/-- a month of the schedule -/
theorem sch_0 {B : Nat → Int} {q ix cl : Int} {k : Nat} {L : Nat → Int} (ho : 0 < L 1) (hi : ix ≤ 0) (hc : (payL L 1 ≤ 0 ∧ cl = 1) ∨ (¬ payL L 1 ≤ 0 ∧ cl = 0)) : wrL (wrL B q (pmF (dueL L) (fI (L 1) (L 2) (L 5)) cl)) (q + pmN (dueL L) (fI (L 1) (L 2) (L 5)) cl) (schL k (ix + 1) (payL L)) = wrL B q (schL (k + 1) ix L) ∧ q + pmN (dueL L) (fI (L 1) (L 2) (L 5)) cl + schN k (ix + 1) (payL L) = q + schN (k + 1) ix L := by
  have e : schL (k + 1) ix L = pmF (dueL L) (fI (L 1) (L 2) (L 5)) cl ++ schL k (ix + 1) (payL L) := by
    rw [schL_s ho, if_neg (by omega), pm_t hc]
    rfl
  refine ⟨?_, ?_⟩
  · rw [e, wrL_app]; rfl
  · unfold schN pmN
    rw [e, List.length_append]
    omega
theorem sch_1 {B : Nat → Int} {q ix cl : Int} {k : Nat} {L : Nat → Int} (ho : 0 < L 1) (hi : 0 < ix) (hc : (payL L 1 ≤ 0 ∧ cl = 1) ∨ (¬ payL L 1 ≤ 0 ∧ cl = 0)) : wrL (wrL (uI B q.toNat 32) (q + 1) (pmF (dueL L) (fI (L 1) (L 2) (L 5)) cl)) (q + 1 + pmN (dueL L) (fI (L 1) (L 2) (L 5)) cl) (schL k (ix + 1) (payL L)) = wrL B q (schL (k + 1) ix L) ∧ q + 1 + pmN (dueL L) (fI (L 1) (L 2) (L 5)) cl + schN k (ix + 1) (payL L) = q + schN (k + 1) ix L := by
  have e : schL (k + 1) ix L = 32 :: (pmF (dueL L) (fI (L 1) (L 2) (L 5)) cl ++ schL k (ix + 1) (payL L)) := by
    rw [schL_s ho, if_pos hi, pm_t hc]
    rfl
  refine ⟨?_, ?_⟩
  · rw [e, ← wr_s, wrL_app]; rfl
  · unfold schN pmN
    rw [e, List.length_cons, List.length_append]
    omega
def repN (L : Nat → Int) : Int := (repL L).length
theorem rep_y {L : Nat → Int} (h : 0 < L 1) : repL L = schL 12 0 L ∧ repN L = schN 12 0 L := by
  have e : repL L = schL 12 0 L := if_pos h
  exact ⟨e, by unfold repN schN; rw [e]⟩
theorem rep_n {L : Nat → Int} (h : L 1 ≤ 0) : repL L = [45] ∧ repN L = 1 := by
  have e : repL L = [45] := if_neg (by omega)
  exact ⟨e, by unfold repN; rw [e]; rfl⟩
theorem sch_e {B : Nat → Int} {q ix : Int} {k : Nat} {L : Nat → Int} (h : L 1 ≤ 0 ∨ k = 0) : wrL B q (schL k ix L) = B ∧ schN k ix L = 0 := by
  have e : schL k ix L = [] := by
    rcases h with h | rfl
    · exact schL_e h
    · rfl
  unfold schN
  rw [e]
  exact ⟨rfl, rfl⟩
