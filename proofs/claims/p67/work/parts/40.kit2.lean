/-! what stays through a run: the JDK's statics, the texts; contracts that rest on it, contracts that throw, contracts in a wider world -/
/-- the texts' places: 0 to 9 the class's script, 10 to 18 the first again, 19 the law's, 20 the first script -/
def lo_own : Nat → String × Nat × String := fun i => match i with
  | 0 => (RX5, 96, "loans") | 1 => (RX5, 124, "open") | 2 => (RX5, 126, "pay") | 3 => (RX5, 128, "all") | 4 => (RX5, 130, "extra")
  | 5 => (RX5, 132, "skip") | 6 => (RX5, 134, "rate") | 7 => (RX5, 136, "extend") | 8 => (RX5, 138, "repeat") | 9 => (RX5, 154, "keep")
  | 10 => (RX5, 96, "loans") | 11 => (RX5, 96, "loans") | 12 => (RX5, 96, "loans") | 13 => (RX5, 96, "loans") | 14 => (RX5, 96, "loans") | 15 => (RX5, 96, "loans") | 16 => (RX5, 96, "loans") | 17 => (RX5, 96, "loans") | 18 => (RX5, 96, "loans") | 19 => (RL, 137, "loans;              ")
  | _ => (RX7, 67, "loans; open 120000 600 12; open 50000 1200 6; open 999 0 4; all; extra 0 20000; skip 1;")
def lo_tx : Nat → List Int := fun i => match i with
  | 0 => [108, 111, 97, 110, 115] | 1 => [111, 112, 101, 110] | 2 => [112, 97, 121] | 3 => [97, 108, 108] | 4 => [101, 120, 116, 114, 97]
  | 5 => [115, 107, 105, 112] | 6 => [114, 97, 116, 101] | 7 => [101, 120, 116, 101, 110, 100] | 8 => [114, 101, 112, 101, 97, 116] | 9 => [107, 101, 101, 112]
  | 10 => [108, 111, 97, 110, 115] | 11 => [108, 111, 97, 110, 115] | 12 => [108, 111, 97, 110, 115] | 13 => [108, 111, 97, 110, 115] | 14 => [108, 111, 97, 110, 115] | 15 => [108, 111, 97, 110, 115] | 16 => [108, 111, 97, 110, 115] | 17 => [108, 111, 97, 110, 115] | 18 => [108, 111, 97, 110, 115] | 19 => [108, 111, 97, 110, 115, 59, 32, 32, 32, 32, 32, 32, 32, 32, 32, 32, 32, 32, 32, 32]
  | _ => [108, 111, 97, 110, 115, 59, 32, 111, 112, 101, 110, 32, 49, 50, 48, 48, 48, 48, 32, 54, 48, 48, 32, 49, 50, 59, 32, 111, 112, 101, 110, 32, 53, 48, 48, 48, 48, 32, 49, 50, 48, 48, 32, 54, 59, 32, 111, 112, 101, 110, 32, 57, 57, 57, 32, 48, 32, 52, 59, 32, 97, 108, 108, 59, 32, 101, 120, 116, 114, 97, 32, 48, 32, 50, 48, 48, 48, 48, 59, 32, 115, 107, 105, 112, 32, 49, 59]
/-- a text of the tables: an object of its class, its bytes -/
def lo_St (a : Nat) (t : List Int) (A : Nat → Prop) (U : State) (H : Heap) : Prop := va_O "java/lang/String" a A U H ∧ va_OF "java/lang/String" "coder" "B" (.int (iI 0)) a A U H ∧ ∃ v : Nat, va_OF "java/lang/String" "value" "[B" (.ref v) a A U H ∧ va_T .byte v t.length (fun j => .int (iI (t.getD j 0))) A U H
/-- the words of a throw that hold of the tables alone, and stay with them -/
def lo_bad : List Cond := [.declares (Bundle.init0 "java/lang/RuntimeException"), .declares (Bundle.init0 "java/lang/Exception"), .declares (Bundle.init0 Bundle.tN), .castable "java/lang/IllegalArgumentException" "java/lang/IllegalArgumentException", .castable "java/lang/IllegalStateException" "java/lang/IllegalStateException", .castable "java/lang/IndexOutOfBoundsException" "java/lang/IndexOutOfBoundsException", .castable "java/lang/IndexOutOfBoundsException" "java/lang/IndexOutOfBoundsException"]
theorem lo_bad_tab : ∀ w ∈ lo_bad, w.onTables = true := by decide +kernel
theorem lo_bad_moved {u U : State} (hvm : u.vm.Alike U.vm) {w : Cond} (hw : w ∈ lo_bad) (h : va_Nw w u) : va_Nw w U := by
  have tr : ∀ {c : Cond}, c.onTables = true → c.before #[] (u.setVm U.vm) = true → c.before #[] U = true := by
    intro c hc h
    have e := Cond.onTables_vm (A := #[]) (A' := #[]) (U := u) (U' := U) U.vm c hc
    have hU : U.setVm U.vm = U := rfl
    rw [hU] at e
    rw [← e]
    exact h
  simp only [lo_bad, List.mem_cons, List.not_mem_nil, or_false] at hw
  rcases hw with rfl | rfl | rfl | rfl | rfl | rfl | rfl <;> first | exact tr rfl (by rw [Cond.declares_setVm hvm]; exact h) | exact tr rfl (by rw [Cond.castable_setVm hvm]; exact h)
/-- the law's script: an array of ints that nobody writes -/
def lo_Sc (b : Nat) (A : Nat → Prop) (U : State) (H : Heap) : Prop := ∃ (L : Nat) (xs : Nat → Int32), L ≤ 260 ∧ va_T .int b L (fun j => .int (xs j)) A U H
theorem lo_Sc.moved {b : Nat} {A : Nat → Prop} {u U : State} {H : Heap} (hvm : u.vm.Alike U.vm) (h : lo_Sc b A u H) : lo_Sc b A U H := by
  obtain ⟨L, xs, h1, h2⟩ := h
  exact ⟨L, xs, h1, h2.moved hvm⟩
theorem lo_Sc.kept {b : Nat} {A : Nat → Prop} {U : State} {H H1 : Heap} (h : lo_Sc b A U H) (hq : ∀ a : Nat, a < H.size → ¬ A a → H1[a]? = H[a]?) : lo_Sc b A U H1 := by
  obtain ⟨L, xs, h1, h2⟩ := h
  exact ⟨L, xs, h1, h2.kept hq⟩
theorem lo_Sc.narrow {b : Nat} {A B : Nat → Prop} {U : State} {H : Heap} (h : lo_Sc b A U H) (hAB : ∀ q, B q → A q) : lo_Sc b B U H := by
  obtain ⟨L, xs, h1, h2⟩ := h
  exact ⟨L, xs, h1, h2.narrow hAB⟩
/-- .. and what a handler needs to know of classes -/
def lo_Fx (b : Nat) (A : Nat → Prop) (U : State) (H : Heap) : Prop := lo_Sc b A U H ∧ va_Nc "java/lang/IllegalStateException" "java/lang/IndexOutOfBoundsException" U ∧ va_Nc "java/lang/IllegalStateException" "java/lang/IllegalArgumentException" U ∧ va_Nc "java/lang/IllegalArgumentException" "java/lang/IndexOutOfBoundsException" U
theorem lo_Fx.moved {b : Nat} {A : Nat → Prop} {u U : State} {H : Heap} (hvm : u.vm.Alike U.vm) (h : lo_Fx b A u H) : lo_Fx b A U H := ⟨h.1.moved hvm, h.2.1.moved hvm, h.2.2.1.moved hvm, h.2.2.2.moved hvm⟩
theorem lo_Fx.kept {b : Nat} {A : Nat → Prop} {U : State} {H H1 : Heap} (h : lo_Fx b A U H) (hq : ∀ a : Nat, a < H.size → ¬ A a → H1[a]? = H[a]?) : lo_Fx b A U H1 := ⟨h.1.kept hq, h.2⟩
theorem lo_Fx.narrow {b : Nat} {A B : Nat → Prop} {U : State} {H : Heap} (h : lo_Fx b A U H) (hAB : ∀ q, B q → A q) : lo_Fx b B U H := ⟨h.1.narrow hAB, h.2⟩
/-- what stays, where the addresses of A alone are written -/
def lo_Ev (kS : Nat → Nat) (A : Nat → Prop) (U : State) (H : Heap) : Prop :=
  lo_Fx (kS 21) A U H ∧ vx_Zq Bundle.tN "UNASSIGNED_STACK" Bundle.steD A U H ∧ vx_Zq Bundle.tN "SUPPRESSED_SENTINEL" Bundle.listD A U H ∧ va_Z "java/lang/String" "COMPACT_STRINGS" "Z" (.int (iI 1)) A U H ∧ va_Zq "jdk/internal/util/Preconditions" "SIOOBE_FORMATTER" "Ljava/util/function/BiFunction;" A U H ∧
  (∀ i, i < 21 → lo_St (kS i) (lo_tx i) A U H) ∧ (∀ i, i < 21 → vk_R (lo_own i).1 (lo_own i).2.1 (lo_own i).2.2 (kS i) U) ∧ ∀ w ∈ lo_bad, va_Nw w U
theorem lo_St.moved {a : Nat} {t : List Int} {A : Nat → Prop} {u U : State} {H : Heap} (hvm : u.vm.Alike U.vm) (h : lo_St a t A u H) : lo_St a t A U H := by
  obtain ⟨h1, h2, v, h3, h4⟩ := h
  exact ⟨va_O.moved hvm h1, va_OF.moved hvm h2, v, va_OF.moved hvm h3, va_T.moved hvm h4⟩
theorem lo_St.kept {a : Nat} {t : List Int} {A : Nat → Prop} {U : State} {H H1 : Heap} (h : lo_St a t A U H) (hq : ∀ a : Nat, a < H.size → ¬ A a → H1[a]? = H[a]?) : lo_St a t A U H1 := by
  obtain ⟨h1, h2, v, h3, h4⟩ := h
  exact ⟨h1.kept hq, h2.kept hq, v, h3.kept hq, h4.kept hq⟩
theorem lo_St.narrow {a : Nat} {t : List Int} {A B : Nat → Prop} {U : State} {H : Heap} (h : lo_St a t A U H) (hAB : ∀ q, B q → A q) : lo_St a t B U H := by
  obtain ⟨h1, h2, v, h3, h4⟩ := h
  exact ⟨h1.narrow hAB, h2.narrow hAB, v, h3.narrow hAB, h4.narrow hAB⟩
/-- .. at a call from here -/
theorem lo_Ev.warm {kS : Nat → Nat} {A B : Nat → Prop} {s U : State} {H : Heap} {locs : List Loc} (hW : s.WarmedH U.vm) (hS : va_S A s.heap H locs) (hF : ∀ q, B q → A q) (h : lo_Ev kS A s s.heap) : lo_Ev kS B U H := by
  obtain ⟨h1, h2, h3, h4, h5, h6, h7, h8⟩ := h
  have ha := hW.alike
  exact ⟨((h1.kept hS.2.1).narrow hF).moved ha, ((h2.kept hS.2.1).narrow hF).moved ha, ((h3.kept hS.2.1).narrow hF).moved ha, va_Z.moved ha ((h4.kept hS.2.1).narrow hF), va_Zq.moved ha ((h5.kept hS.2.1).narrow hF), fun i hi => (((h6 i hi).kept hS.2.1).narrow hF).moved ha, fun i hi => (h7 i hi).warm hW, fun w hw => lo_bad_moved ha hw (h8 w hw)⟩
theorem lo_Ev.calling {kS : Nat → Nat} {A : Nat → Prop} {U : State} {H : Heap} {g : JFrame} {mk : MethodId} {a : Array Value} (h : lo_Ev kS A U H) : lo_Ev kS A (U.calling g mk a) H := by
  obtain ⟨h1, h2, h3, h4, h5, h6, h7, h8⟩ := h
  have ha : U.vm.Alike (U.calling g mk a).vm := Vm.Alike.refl U.vm
  exact ⟨h1.moved ha, h2.moved ha, h3.moved ha, va_Z.moved ha h4, va_Zq.moved ha h5, fun i hi => (h6 i hi).moved ha, fun i hi => vk_R.same (u := U) (U := U.calling g mk a) rfl (h7 i hi), fun w hw => lo_bad_moved ha hw (h8 w hw)⟩
def lo_PcE (X : KX) (kS : Nat → Nat) (as : List Value) (w0 : va_W) (sz : Nat) : Array Value → State → Prop := va_Pc as (fun U => (U.heap.size = sz ∧ va_P X.1 vwCl w0 U.heap ∧ lo_K X U ∧ va_D (fun _ => True) w0) ∧ lo_Ev kS (va_A w0 sz) U U.heap)
theorem lo_blindE (X : KX) (kS : Nat → Nat) (as : List Value) (w0 : va_W) (sz : Nat) : FrameBlind (lo_PcE X kS as w0 sz) := fun a U g mk q => by
  obtain ⟨q0, ⟨q1, qP, qK, qD⟩, qE⟩ := q
  exact ⟨q0, ⟨q1, qP, va_K.moved (u := U) (U := U.calling g mk a) (Vm.Alike.refl U.vm) qK, qD⟩, qE.calling⟩
/-- the contract of a method that returns, and that rests on what stays -/
def CE (l : Launch) (X : KX) (kS : Nat → Nat) (y : MethodName) (ws : List Cond) (rm : Room) (as : List Value) (w0 : va_W) (post : Option Value → va_W → Prop) (mc ms : Nat) : Prop :=
  ∀ sz : Nat, Met l y ws rm (lo_PcE X kS as w0 sz) (lo_Qc X w0 sz post) mc ms (va_A w0 sz)
/-- .. that returns or throws: xp says of the thrown class's name and of the cells behind it -/
def lo_XC (X : KX) (w0 : va_W) (sz : Nat) (xp : String → va_W → Prop) : String → State → State → Prop := fun E st t => lo_B X w0 sz (xp E) t ∧ va_F (va_A w0 sz) st t
def CT (l : Launch) (X : KX) (kS : Nat → Nat) (y : MethodName) (ws : List Cond) (rm : Room) (as : List Value) (w0 : va_W) (post : Option Value → va_W → Prop) (xp : String → va_W → Prop) (mc ms : Nat) : Prop :=
  ∀ sz : Nat, vx_Met l y ws rm (lo_PcE X kS as w0 sz) (lo_Qc X w0 sz post) (lo_XC X w0 sz xp) mc ms (va_A w0 sz)
section LOF
variable {l : Launch} {X : KX} {kS : Nat → Nat} {y : MethodName} {ws : List Cond} {rm : Room} {as : List Value} {w0 W0 : va_W} {post : Option Value → va_W → Prop} {xp : String → va_W → Prop} {mc ms : Nat}
theorem CM.toE (h : CM l X y ws rm as w0 post mc ms) : CE l X kS y ws rm as w0 post mc ms := fun sz =>
  MetFree.mono (h sz) (fun _ _ q => ⟨q.1, q.2.1⟩) (fun _ _ _ _ _ q => q) (fun _ _ _ _ _ q => q)
theorem CM.weak {post2 : Option Value → va_W → Prop} (h : CM l X y ws rm as w0 post mc ms) (hp : ∀ v w, post v w → post2 v w) : CM l X y ws rm as w0 post2 mc ms := fun sz =>
  MetFree.mono (h sz) (fun _ _ q => q) (fun _ _ _ _ _ q => q) (fun _ _ _ _ _ ⟨⟨⟨v, hv, w, h1, h2⟩, h3⟩, h4⟩ => ⟨⟨⟨v, hv, w, hp v w h1, h2⟩, h3⟩, h4⟩)
theorem CE.weak {post2 : Option Value → va_W → Prop} (h : CE l X kS y ws rm as w0 post mc ms) (hp : ∀ v w, post v w → post2 v w) : CE l X kS y ws rm as w0 post2 mc ms := fun sz =>
  MetFree.mono (h sz) (fun _ _ q => q) (fun _ _ _ _ _ q => q) (fun _ _ _ _ _ ⟨⟨⟨v, hv, w, h1, h2⟩, h3⟩, h4⟩ => ⟨⟨⟨v, hv, w, hp v w h1, h2⟩, h3⟩, h4⟩)
theorem CT.weak {post2 : Option Value → va_W → Prop} {xp2 : String → va_W → Prop} (h : CT l X kS y ws rm as w0 post xp mc ms) (hp : ∀ v w, post v w → post2 v w) (hx : ∀ E w, xp E w → xp2 E w) : CT l X kS y ws rm as w0 post2 xp2 mc ms := fun sz =>
  MetFree.mono (h sz) (fun _ _ q => q) (fun _ _ _ _ _ q => q) (fun _ _ _ _ _ q => q.imp (fun ⟨⟨⟨v, hv, w, h1, h2⟩, h3⟩, h4⟩ => ⟨⟨⟨v, hv, w, hp v w h1, h2⟩, h3⟩, h4⟩)
    (fun ⟨q, e, E, ce, L, ⟨⟨w, h1, h2⟩, h3⟩, h4⟩ => ⟨q, e, E, ce, L, ⟨⟨w, hx E w h1, h2⟩, h3⟩, h4⟩))
/-- places of a wider world -/
theorem lo_A_sub (ps : List Nat) (hps : ps.map (fun i => W0[i]?) = w0.map some) {sz : Nat} : ∀ q, va_A w0 sz q → va_A W0 sz q := by
  intro q hq
  rcases hq with ⟨k, e, h⟩ | h
  · obtain ⟨i, -, h2⟩ := lo_at hps h
    exact Or.inl ⟨i, e, h2⟩
  · exact Or.inr h
theorem lo_P_sub {D : va_G} {cl : List vw_C} {H : Heap} (ps : List Nat) (hps : ps.map (fun i => W0[i]?) = w0.map some) (h : va_P D cl W0 H) : va_P D cl w0 H := by
  intro k q hk
  obtain ⟨i, -, h2⟩ := lo_at hps hk
  exact h i q h2
theorem lo_Ev.narrow {A B : Nat → Prop} {U : State} {H : Heap} (h : lo_Ev kS A U H) (hF : ∀ q, B q → A q) : lo_Ev kS B U H := by
  obtain ⟨h1, h2, h3, h4, h5, h6, h7⟩ := h
  exact ⟨h1.narrow hF, h2.narrow hF, h3.narrow hF, h4.narrow hF, h5.narrow hF, fun i hi => (h6 i hi).narrow hF, h7⟩
/-- the callee's cells behind it, put back into a wider world -/
theorem lo_B_wide (ps : List Nat) (hps : ps.map (fun i => W0[i]?) = w0.map some) (hn : va_nd ps = true) {sz : Nat} {st t : State} {pp : va_W → Prop} (hsz : st.heap.size = sz) (hP : va_P X.1 vwCl W0 st.heap) (hD : va_D (fun _ => True) W0) (hB : lo_B X w0 sz pp t) (hF : va_F (va_A w0 sz) st t) : lo_B X W0 sz (fun W => ∃ w1, pp w1 ∧ W = lo_sets W0 ps w1) t ∧ va_F (va_A W0 sz) st t := by
  obtain ⟨w, h1, h2, h3, h4, h5⟩ := hB
  subst hsz
  have hD1 : va_D (va_A W0 st.heap.size) W0 := hD.self
  obtain ⟨hP2, hD2⟩ := lo_sets_P hP hD1 hps hn h5 h2 (fun q hq hq2 => hF.2 q hq hq2)
  exact ⟨⟨lo_sets W0 ps w, ⟨w, h1, rfl⟩, hP2, h3, hD2, lo_sets_fst hps hn h5⟩, hF.1, fun q hq hq2 => hF.2 q hq (fun z => hq2 (lo_A_sub ps hps q z))⟩
/-- THE FRAME RULE for a contract: the same in any wider world -/
theorem CM.wide (h : CM l X y ws rm as w0 post mc ms) (ps : List Nat) (hps : ps.map (fun i => W0[i]?) = w0.map some) (hn : va_nd ps = true) : CM l X y ws rm as W0 (fun v W => ∃ w1, post v w1 ∧ W = lo_sets W0 ps w1) mc ms := fun sz =>
  MetFree.mono (h sz) (fun _ _ ⟨q0, q1, qP, qK, qD⟩ => ⟨q0, q1, lo_P_sub ps hps qP, qK, qD.sub ps hn hps⟩) (fun _ _ _ _ _ q => q)
    (fun a st o t ⟨_, q1, qP, _, qD⟩ ⟨⟨⟨v, hv, hB⟩, hF⟩, L, h1, h2⟩ => by
      obtain ⟨hB2, hF2⟩ := lo_B_wide ps hps hn q1 qP qD hB hF
      exact ⟨⟨⟨v, hv, hB2⟩, hF2⟩, L, h1, fun q hq => lo_A_sub ps hps _ (h2 q hq)⟩)
theorem CE.wide (h : CE l X kS y ws rm as w0 post mc ms) (ps : List Nat) (hps : ps.map (fun i => W0[i]?) = w0.map some) (hn : va_nd ps = true) : CE l X kS y ws rm as W0 (fun v W => ∃ w1, post v w1 ∧ W = lo_sets W0 ps w1) mc ms := fun sz =>
  MetFree.mono (h sz) (fun _ _ ⟨q0, ⟨q1, qP, qK, qD⟩, qE⟩ => ⟨q0, ⟨q1, lo_P_sub ps hps qP, qK, qD.sub ps hn hps⟩, qE.narrow (lo_A_sub ps hps)⟩) (fun _ _ _ _ _ q => q)
    (fun a st o t ⟨_, ⟨q1, qP, _, qD⟩, _⟩ ⟨⟨⟨v, hv, hB⟩, hF⟩, L, h1, h2⟩ => by
      obtain ⟨hB2, hF2⟩ := lo_B_wide ps hps hn q1 qP qD hB hF
      exact ⟨⟨⟨v, hv, hB2⟩, hF2⟩, L, h1, fun q hq => lo_A_sub ps hps _ (h2 q hq)⟩)
theorem CT.wide (h : CT l X kS y ws rm as w0 post xp mc ms) (ps : List Nat) (hps : ps.map (fun i => W0[i]?) = w0.map some) (hn : va_nd ps = true) : CT l X kS y ws rm as W0 (fun v W => ∃ w1, post v w1 ∧ W = lo_sets W0 ps w1) (fun E W => ∃ w1, xp E w1 ∧ W = lo_sets W0 ps w1) mc ms := fun sz =>
  MetFree.mono (h sz) (fun _ _ ⟨q0, ⟨q1, qP, qK, qD⟩, qE⟩ => ⟨q0, ⟨q1, lo_P_sub ps hps qP, qK, qD.sub ps hn hps⟩, qE.narrow (lo_A_sub ps hps)⟩) (fun _ _ _ _ _ q => q)
    (fun a st o t ⟨_, ⟨q1, qP, _, qD⟩, _⟩ hq => by
      rcases hq with ⟨⟨⟨v, hv, hB⟩, hF⟩, L, h1, h2⟩ | ⟨q, e, E, ce, L, ⟨hB, hF⟩, h1, h2, h3, h4, h5, h6⟩
      · obtain ⟨hB2, hF2⟩ := lo_B_wide ps hps hn q1 qP qD hB hF
        exact Or.inl ⟨⟨⟨v, hv, hB2⟩, hF2⟩, L, h1, fun q hq => lo_A_sub ps hps _ (h2 q hq)⟩
      · obtain ⟨hB2, hF2⟩ := lo_B_wide ps hps hn q1 qP qD hB hF
        exact Or.inr ⟨q, e, E, ce, L, ⟨hB2, hF2⟩, h1, h2, h3, h4, h5, fun z hz => lo_A_sub ps hps _ (h6 z hz)⟩)
/-- a method's walk from its entry, with what stays -/
theorem lo_enterE {ws' : List Cond} {cc : ByteArray} {maxL : Nat} {ret : Option FieldType} {lv : List (Nat × Value)} (hy : plainName y.cls = true) (hw : ws = Cond.code y cc maxL ret :: ws') (hlv : lv_args 0 as = lv) (hn : (lg_sl as).length ≤ maxL)
    (body : ∀ (p : Program) (e : Env) (s : State) (m : MethodId) (below : List Frame) (meth : Method) (c : Code) (A : Nat → Prop) (ls : Array Slot), A = va_A w0 s.heap.size → CallFix p m c cc maxL s as.toArray ws y.cls → meth.sig.returnType = ret → meth.locks = false → lo_K X s → lv_has ls maxL lv → lo_Wd X w0 A s.heap s.heap [] → lo_Ev kS A s s.heap →
      W p l e rm s m as.toArray below meth c s.heap [] 0 0 (MQ below (lo_Qc X w0 s.heap.size post) as.toArray s mc ms A) (F0 m 0 ls [])) : CE l X kS y ws rm as w0 post mc ms := by
  intro sz
  refine Met.ofW (cc := cc) (maxL := maxL) (ret := ret) hy hw ?_
  intro p e s m args below meth c s₁ B hml hv
  obtain ⟨rfl, ⟨hsz, hP, hK, hD0⟩, hE⟩ := hv
  subst hsz
  rw [lg_entry_eq]
  have hl := lv_entry as hn
  rw [hlv] at hl
  exact body p e s m below meth c _ _ rfl ⟨B.exec, B.bytes, hml, findClass_of_methodNamed B.named, atoms_spec (ws := ws) B.pre⟩ B.returns B.notSynchronized hK hl ⟨hP, hD0.self, va_S.rf, fun q h => Or.inr h⟩ hE
/-- .. that may throw -/
theorem lo_enterT {ws' : List Cond} {cc : ByteArray} {maxL : Nat} {ret : Option FieldType} {lv : List (Nat × Value)} (hy : plainName y.cls = true) (hw : ws = Cond.code y cc maxL ret :: ws') (hlv : lv_args 0 as = lv) (hn : (lg_sl as).length ≤ maxL)
    (body : ∀ (p : Program) (e : Env) (s : State) (m : MethodId) (below : List Frame) (meth : Method) (c : Code) (A : Nat → Prop) (ls : Array Slot), A = va_A w0 s.heap.size → CallFix p m c cc maxL s as.toArray ws y.cls → meth.sig.returnType = ret → meth.locks = false → lo_K X s → lv_has ls maxL lv → lo_Wd X w0 A s.heap s.heap [] → lo_Ev kS A s s.heap → (∀ x ∈ c.exceptionTable.toList, False) →
      W p l e rm s m as.toArray below meth c s.heap [] 0 0 (vx_MQ below (lo_Qc X w0 s.heap.size post) (lo_XC X w0 s.heap.size xp) as.toArray s mc ms A) (F0 m 0 ls [])) : CT l X kS y ws rm as w0 post xp mc ms := by
  intro sz
  refine vx_ofW (cc := cc) (maxL := maxL) (ret := ret) hy hw ?_
  intro p e s m args below meth c s₁ B hml ht hv
  obtain ⟨rfl, ⟨hsz, hP, hK, hD0⟩, hE⟩ := hv
  subst hsz
  rw [lg_entry_eq]
  have hl := lv_entry as hn
  rw [hlv] at hl
  exact body p e s m below meth c _ _ rfl ⟨B.exec, B.bytes, hml, findClass_of_methodNamed B.named, atoms_spec (ws := ws) B.pre⟩ B.returns B.notSynchronized hK hl ⟨hP, hD0.self, va_S.rf, fun q h => Or.inr h⟩ hE ht
end LOF
section LOG
variable {p : Program} {l : Launch} {e : Env} {R : Room} {s : State} {m : MethodId} {args : Array Value} {below : List Frame} {meth : Method} {c : Code} {H : Heap} {locs : List Loc} {cells slots : Nat} {Q : State → Prop}
variable {cc : ByteArray} {pc nL : Nat} {ls : Array Slot} {rest st0 : List Value} {Ts : List Cond} {own : String} {X : KX} {kS : Nat → Nat} {ws : va_W} {A : Nat → Prop} {H0 : Heap}
theorem lo_preE {w0 : va_W} {as : List Value} (ps : List Nat) (hK : lo_K X s) (hw : lo_Wd X ws A s.heap H locs) (hV : lo_Ev kS A s s.heap) (hps : ps.map (fun i => ws[i]?) = w0.map some) (hn : va_nd ps = true) : ∀ U : State, U.heap = H → s.WarmedH U.vm → lo_PcE X kS as w0 H.size as.toArray U := by
  intro U hU hW
  obtain ⟨q0, q1⟩ := lo_pre (as := as) ps hK hw hps hn U hU hW
  exact ⟨q0, q1, by rw [hU]; exact hV.warm hW hw.2.2.1 (va_free hw.2.1 hw.2.2.1 hw.2.2.2 ps hps)⟩
/-- a virtual call of a method whose contract rests on what stays -/
theorem lo_callVE {y : MethodName} {bytes : ByteArray} {maxL index n ci q0 mc ms : Nat} {ret : Option FieldType} {wsy : List Cond} {rm : Room} {b : Nat} {fs As rest : List Value} {w0 : va_W} {post : Option Value → va_W → Prop} {C : String} {T : u_T} {N : Nat} (E : CallFix p m c cc nL s args Ts own) (hK : lo_K X s) (hw : lo_Wd X ws A s.heap H locs) (hV : lo_Ev kS A s s.heap)
    (hM : CE l X kS y wsy rm (.ref b :: As) w0 post mc ms) (cw : CallW R s args own C index y bytes maxL ret wsy rm mc ms n) (hrec : ws[q0]? = some (b, .inr (ci, fs))) (hc : vwCl[ci]? = some (C, T, N)) (ps : List Nat) (hps : ps.map (fun i => ws[i]?) = w0.map some) (hnd : va_nd ps = true) (hls : ls.size = nL) (hn : As.length = n)
    (hst : st0 = As.reverse ++ .ref b :: rest) (hroom : (rest.map fun v => v.category).sum ≤ 8) (hdg : decode cc pc = .ok (.invokevirtual index, 3)) (hf : cells + mc ≤ R.cells ∧ slots + ms ≤ R.slots)
    (kk : ∀ (v : Option Value) (w1 : va_W) (H1 : Heap) (locs1 : List Loc), post v w1 → lo_Wd X (lo_sets ws ps w1) A s.heap H1 locs1 → W p l e R s m args below meth c H1 locs1 (cells + mc) (slots + ms) Q (F0 m (pc + 3) ls (v.toList ++ rest))) : W p l e R s m args below meth c H locs cells slots Q (F0 m pc ls st0) :=
  lo_call (rest := rest) ps (va_runV E (hM H.size) cw ⟨lo_blindE X kS _ w0 H.size, va_recv hK hw.1 hc hrec, fun U hU hW => lo_preE ps hK hw hV hps hnd U hU hW⟩ rfl hn hls hst (lv_room hroom) hdg hf) hw hps hnd kk
theorem lo_callSE {y : MethodName} {bytes : ByteArray} {maxL index n mc ms : Nat} {ret : Option FieldType} {wsy : List Cond} {rm : Room} {As rest : List Value} {w0 : va_W} {post : Option Value → va_W → Prop} (E : CallFix p m c cc nL s args Ts own) (hK : lo_K X s) (hw : lo_Wd X ws A s.heap H locs) (hV : lo_Ev kS A s s.heap)
    (hM : CE l X kS y wsy rm As w0 post mc ms) (cw : CallB R s args own index y bytes maxL ret wsy rm mc ms n ∧ (Cond.static y).before args s = true) (ps : List Nat) (hps : ps.map (fun i => ws[i]?) = w0.map some) (hnd : va_nd ps = true) (hls : ls.size = nL) (hn : As.length = n)
    (hst : st0 = As.reverse ++ rest) (hroom : (rest.map fun v => v.category).sum ≤ 8) (hdg : decode cc pc = .ok (.invokestatic index, 3)) (hf : cells + mc ≤ R.cells ∧ slots + ms ≤ R.slots)
    (kk : ∀ (v : Option Value) (w1 : va_W) (H1 : Heap) (locs1 : List Loc), post v w1 → lo_Wd X (lo_sets ws ps w1) A s.heap H1 locs1 → W p l e R s m args below meth c H1 locs1 (cells + mc) (slots + ms) Q (F0 m (pc + 3) ls (v.toList ++ rest))) : W p l e R s m args below meth c H locs cells slots Q (F0 m pc ls st0) :=
  lo_call (rest := rest) ps (va_runS E (hM H.size) cw ⟨lo_blindE X kS _ w0 H.size, fun U hU hW => lo_preE ps hK hw hV hps hnd U hU hW⟩ rfl hn hls hst (lv_room hroom) hdg hf) hw hps hnd kk
/-- a call of a method that may throw: it comes back, or the frame stands with the thrown over it -/
theorem lo_callX {a : Array Value} {w0 : va_W} {post : Option Value → va_W → Prop} {xp : String → va_W → Prop} {mc ms : Nat} (ps : List Nat) (hr : vx_Run p l e R s m args below meth c H locs cells slots mc ms (F0 m pc ls st0) rest (lo_Qc X w0 H.size post a) (lo_XC X w0 H.size xp) (va_A w0 H.size)) (hw : lo_Wd X ws A H0 H locs) (hps : ps.map (fun i => ws[i]?) = w0.map some) (hn : va_nd ps = true)
    (kx : ∀ (E : String) (ce : Cell) (q9 : Addr) (w1 : va_W) (H1 : Heap) (locs1 : List Loc), xp E w1 → lo_Wd X (lo_sets ws ps w1) A H0 H1 locs1 → H1[q9]? = some ce → ce.vm = .none → s.vm.findClass E = some ce.cls → vx_W p l e R s m args below meth c H1 locs1 (cells + mc) (slots + ms) Q (F0 m pc ls rest) q9)
    (kk : ∀ (v : Option Value) (w1 : va_W) (H1 : Heap) (locs1 : List Loc), post v w1 → lo_Wd X (lo_sets ws ps w1) A H0 H1 locs1 → W p l e R s m args below meth c H1 locs1 (cells + mc) (slots + ms) Q (F0 m (pc + 3) ls (v.toList ++ rest))) : W p l e R s m args below meth c H locs cells slots Q (F0 m pc ls st0) := by
  obtain ⟨hP, hD, hS, hA⟩ := hw
  have hF := va_free hD hS hA ps hps
  intro T hT Xs
  rcases hr T hT Xs with ⟨v, st₀, t, T', L, h0, X', hL, e1, e2, ⟨⟨v2, hv, w1, hp, hP1, hK1, hD1, hf⟩, hz, hk⟩, st⟩ | ⟨q, st₀, t, T', L, E, ce, h0, X', hL, e1, e2, ⟨⟨w1, hp, hP1, hK1, hD1, hf⟩, hz, hk⟩, hce, hcv, hcl, st⟩
  · cases hv
    rw [h0] at hz hk
    have hz' : H.size ≤ T'.heap.size := by rw [e1]; exact hz
    have hk' : ∀ q : Nat, q < H.size → ¬ va_A w0 H.size q → T'.heap[q]? = H[q]? := fun q h1 h2 => by rw [e1]; exact hk q h1 h2
    have hP1' : va_P X.1 vwCl w1 T'.heap := by rw [e1]; exact hP1
    obtain ⟨hP2, hD2⟩ := lo_sets_P hP hD hps hn hf hP1' hk'
    obtain ⟨t2, a1, b1⟩ := kk v w1 T'.heap (locs ++ L) hp ⟨hP2, hD2, ⟨Nat.le_trans hS.1 hz', fun q h1 h2 => by
        rw [hk' q (Nat.lt_of_lt_of_le h1 hS.1) (fun z => h2 (hF q z))]; exact hS.2.1 q h1 h2, fun q hq => by
        rcases List.mem_append.mp hq with h | h
        · exact hS.2.2 q h
        · exact hF _ (hL q h)⟩, hA⟩ T' rfl X'
    exact ⟨t2, st t2 a1, b1⟩
  · rw [h0] at hz hk
    have hz' : H.size ≤ T'.heap.size := by rw [e1]; exact hz
    have hk' : ∀ q : Nat, q < H.size → ¬ va_A w0 H.size q → T'.heap[q]? = H[q]? := fun q h1 h2 => by rw [e1]; exact hk q h1 h2
    have hP1' : va_P X.1 vwCl w1 T'.heap := by rw [e1]; exact hP1
    obtain ⟨hP2, hD2⟩ := lo_sets_P hP hD hps hn hf hP1' hk'
    obtain ⟨t2, a1, b1⟩ := kx E ce q w1 T'.heap (locs ++ L) hp ⟨hP2, hD2, ⟨Nat.le_trans hS.1 hz', fun q h1 h2 => by
        rw [hk' q (Nat.lt_of_lt_of_le h1 hS.1) (fun z => h2 (hF q z))]; exact hS.2.1 q h1 h2, fun q hq => by
        rcases List.mem_append.mp hq with h | h
        · exact hS.2.2 q h
        · exact hF _ (hL q h)⟩, hA⟩ (by rw [e1]; exact hce) hcv hcl T' rfl X'
    exact ⟨t2, st.trans a1, b1⟩
theorem lo_callVT {y : MethodName} {bytes : ByteArray} {maxL index n ci q0 mc ms : Nat} {ret : Option FieldType} {wsy : List Cond} {rm : Room} {b : Nat} {fs As rest : List Value} {w0 : va_W} {post : Option Value → va_W → Prop} {xp : String → va_W → Prop} {C : String} {T : u_T} {N : Nat} (E : CallFix p m c cc nL s args Ts own) (hK : lo_K X s) (hw : lo_Wd X ws A s.heap H locs) (hV : lo_Ev kS A s s.heap)
    (hM : CT l X kS y wsy rm (.ref b :: As) w0 post xp mc ms) (cw : CallW R s args own C index y bytes maxL ret wsy rm mc ms n) (hrec : ws[q0]? = some (b, .inr (ci, fs))) (hc : vwCl[ci]? = some (C, T, N)) (ps : List Nat) (hps : ps.map (fun i => ws[i]?) = w0.map some) (hnd : va_nd ps = true) (hls : ls.size = nL) (hn : As.length = n)
    (hst : st0 = As.reverse ++ .ref b :: rest) (hroom : (rest.map fun v => v.category).sum ≤ 8) (hdg : decode cc pc = .ok (.invokevirtual index, 3)) (hf : cells + mc ≤ R.cells ∧ slots + ms ≤ R.slots)
    (kx : ∀ (E : String) (ce : Cell) (q9 : Addr) (w1 : va_W) (H1 : Heap) (locs1 : List Loc), xp E w1 → lo_Wd X (lo_sets ws ps w1) A s.heap H1 locs1 → H1[q9]? = some ce → ce.vm = .none → s.vm.findClass E = some ce.cls → vx_W p l e R s m args below meth c H1 locs1 (cells + mc) (slots + ms) Q (F0 m pc ls rest) q9)
    (kk : ∀ (v : Option Value) (w1 : va_W) (H1 : Heap) (locs1 : List Loc), post v w1 → lo_Wd X (lo_sets ws ps w1) A s.heap H1 locs1 → W p l e R s m args below meth c H1 locs1 (cells + mc) (slots + ms) Q (F0 m (pc + 3) ls (v.toList ++ rest))) : W p l e R s m args below meth c H locs cells slots Q (F0 m pc ls st0) :=
  lo_callX (rest := rest) ps (vx_runV E (hM H.size) cw ⟨lo_blindE X kS _ w0 H.size, va_recv hK hw.1 hc hrec, fun U hU hW => lo_preE ps hK hw hV hps hnd U hU hW⟩ rfl hn hls hst (lv_room hroom) hdg hf) hw hps hnd kx kk
theorem lo_callST {y : MethodName} {bytes : ByteArray} {maxL index n mc ms : Nat} {ret : Option FieldType} {wsy : List Cond} {rm : Room} {As rest : List Value} {w0 : va_W} {post : Option Value → va_W → Prop} {xp : String → va_W → Prop} (E : CallFix p m c cc nL s args Ts own) (hK : lo_K X s) (hw : lo_Wd X ws A s.heap H locs) (hV : lo_Ev kS A s s.heap)
    (hM : CT l X kS y wsy rm As w0 post xp mc ms) (cw : CallB R s args own index y bytes maxL ret wsy rm mc ms n ∧ (Cond.static y).before args s = true) (ps : List Nat) (hps : ps.map (fun i => ws[i]?) = w0.map some) (hnd : va_nd ps = true) (hls : ls.size = nL) (hn : As.length = n)
    (hst : st0 = As.reverse ++ rest) (hroom : (rest.map fun v => v.category).sum ≤ 8) (hdg : decode cc pc = .ok (.invokestatic index, 3)) (hf : cells + mc ≤ R.cells ∧ slots + ms ≤ R.slots)
    (kx : ∀ (E : String) (ce : Cell) (q9 : Addr) (w1 : va_W) (H1 : Heap) (locs1 : List Loc), xp E w1 → lo_Wd X (lo_sets ws ps w1) A s.heap H1 locs1 → H1[q9]? = some ce → ce.vm = .none → s.vm.findClass E = some ce.cls → vx_W p l e R s m args below meth c H1 locs1 (cells + mc) (slots + ms) Q (F0 m pc ls rest) q9)
    (kk : ∀ (v : Option Value) (w1 : va_W) (H1 : Heap) (locs1 : List Loc), post v w1 → lo_Wd X (lo_sets ws ps w1) A s.heap H1 locs1 → W p l e R s m args below meth c H1 locs1 (cells + mc) (slots + ms) Q (F0 m (pc + 3) ls (v.toList ++ rest))) : W p l e R s m args below meth c H locs cells slots Q (F0 m pc ls st0) :=
  lo_callX (rest := rest) ps (vx_runS E (hM H.size) cw ⟨lo_blindE X kS _ w0 H.size, fun U hU hW => lo_preE ps hK hw hV hps hnd U hU hW⟩ rfl hn hls hst (lv_room hroom) hdg hf) hw hps hnd kx kk
/-- thrown by a callee, not caught here -/
theorem lo_out {w0 : va_W} {post : Option Value → va_W → Prop} {xp : String → va_W → Prop} {E : String} {ce : Cell} {q : Addr} {mc ms : Nat} (hout : ∀ x ∈ c.exceptionTable.toList, False) (hlocks : meth.locks = false) (hK : lo_K X s) (hA : A = va_A w0 s.heap.size) (hw : lo_Wd X ws A s.heap H locs) (hcell : H[q]? = some ce) (hv : ce.vm = .none) (hcl : s.vm.findClass E = some ce.cls) (hf : ws.map Prod.fst = w0.map Prod.fst) (hc : cells ≤ mc) (hs : slots ≤ ms) (hp : xp E ws) :
    vx_W p l e R s m args below meth c H locs cells slots (vx_MQ below (lo_Qc X w0 s.heap.size post) (lo_XC X w0 s.heap.size xp) args s mc ms A) (F0 m pc ls rest) q := by
  subst hA
  exact vx_out (fun x hx => absurd (hout x hx) id) hlocks hcell hv hcl (fun t ht hW => ⟨⟨ws, hp, by rw [ht]; exact hw.1, hK.moved hW, hw.2.1, hf⟩, by obtain ⟨h1, h2, -⟩ := hw.2.2.1; exact ⟨by rw [ht]; exact h1, fun q h3 h4 => by rw [ht]; exact h2 q h3 h4⟩⟩) hw.2.2.1.2.2 hc hs
end LOG
/-! six loans behind other cells: one of them read, others written -/
theorem lo_sets_app : ∀ (ps : List Nat) (pre Z w1 : va_W), (∀ p ∈ ps, p < pre.length) → lo_sets (pre ++ Z) ps w1 = lo_sets pre ps w1 ++ Z
  | [], _, _, w1, _ => by cases w1 <;> rfl
  | p :: ps, pre, Z, [], _ => rfl
  | p :: ps, pre, Z, w :: w1, h => by
    show lo_sets ((pre ++ Z).set p w) ps w1 = lo_sets (pre.set p w) ps w1 ++ Z
    rw [List.set_append_left _ _ (h p List.mem_cons_self)]
    exact lo_sets_app ps (pre.set p w) Z w1 (fun q hq => by rw [List.length_set]; exact h q (List.mem_cons_of_mem _ hq))
theorem lo_sets_snoc : ∀ (ps : List Nat) (ws w1 : va_W) (q : Nat) (x : Nat × va_E), ps.length = w1.length → lo_sets ws (ps ++ [q]) (w1 ++ [x]) = (lo_sets ws ps w1).set q x
  | [], _, [], _, _, _ => rfl
  | p :: ps, ws, w :: w1, q, x, h => by
    show lo_sets (ws.set p w) (ps ++ [q]) (w1 ++ [x]) = (lo_sets (ws.set p w) ps w1).set q x
    exact lo_sets_snoc ps (ws.set p w) w1 q x (by simpa using h)
theorem lo_sets_len : ∀ (ps : List Nat) (ws w1 : va_W), (lo_sets ws ps w1).length = ws.length
  | [], _, w1 => by cases w1 <;> rfl
  | p :: ps, _, [] => rfl
  | p :: ps, ws, w :: w1 => by
    show (lo_sets (ws.set p w) ps w1).length = _
    rw [lo_sets_len ps _ w1, List.length_set]
theorem lsW_k {pre pre2 w1 : va_W} {ps : List Nat} {b : Nat → Nat} {L : Nat → Nat → Int} {k i : Nat} (hk : pre.length = k) (hi : i < 6) (hp : ∀ p ∈ ps, p < k) (hl : ps.length = w1.length) (h2 : lo_sets pre ps w1 = pre2) : lo_sets (pre ++ lsW b L) (ps ++ [k + i]) (w1 ++ [oX2 (b i) (L i 0) (L i 1) (L i 2) (L i 3) (L i 4) (L i 5) (L i 6) (L i 7) (L i 8) (L i 9)]) = pre2 ++ lsW b L := by
  subst hk
  rw [lo_sets_snoc _ _ _ _ _ hl, lo_sets_app _ _ _ _ hp, h2]
  have e : pre2.length = pre.length := by rw [← h2, lo_sets_len]
  exact lo_set_same (lsW_atE e hi)
theorem lsW_set2 {pre : va_W} {b g : Nat → Nat} {L M : Nat → Nat → Int} {k i : Nat} (hk : pre.length + 6 = k) (hi : i < 6) (f : Nat → Int) : (pre ++ (lsW b L ++ lsW g M)).set (k + i) (oX2 (g i) (f 0) (f 1) (f 2) (f 3) (f 4) (f 5) (f 6) (f 7) (f 8) (f 9)) = pre ++ (lsW b L ++ lsW g (uF M i f)) := by
  subst hk
  rw [Nat.add_assoc, List.set_append_right _ _ (Nat.le_add_right _ _), Nat.add_sub_cancel_left, List.set_append_right _ _ (show (lsW b L).length ≤ 6 + i from (show 6 ≤ 6 + i by omega)), show 6 + i - (lsW b L).length = i from (show 6 + i - 6 = i by omega), ls_set hi]
theorem lsW_c21 {pre : va_W} {b g : Nat → Nat} {L M : Nat → Nat → Int} {k i : Nat} (hk : pre.length + 6 = k) (hi : i < 6) (f : Nat → Int) : lo_sets (pre ++ (lsW b L ++ lsW g M)) [k + i] [oX2 (g i) (f 0) (f 1) (f 2) (f 3) (f 4) (f 5) (f 6) (f 7) (f 8) (f 9)] = pre ++ (lsW b L ++ lsW g (uF M i f)) := lsW_set2 hk hi f
theorem lsW_c20 {pre : va_W} {b g : Nat → Nat} {L M : Nat → Nat → Int} {k i : Nat} (hk : pre.length + 6 = k) (hi : i < 6) : lo_sets (pre ++ (lsW b L ++ lsW g M)) [k + i] [oX2 (g i) (M i 0) (M i 1) (M i 2) (M i 3) (M i 4) (M i 5) (M i 6) (M i 7) (M i 8) (M i 9)] = pre ++ (lsW b L ++ lsW g M) := lo_set_same (lsW_at2 hk hi)
