/-! worlds in blocks: a contract over some blocks holds over all of them -/
def bpsL (ls : List Nat) : List Nat → List Nat
  | [] => []
  | i :: bs => List.range' ((ls.take i).sum) (ls.getD i 0) ++ bpsL ls bs
def bsel (Ws : List va_W) : List Nat → va_W
  | [] => []
  | i :: bs => Ws.getD i [] ++ bsel Ws bs
def brep : List va_W → List Nat → List va_W → List va_W
  | Ws, i :: bs, n :: ns => brep (Ws.set i n) bs ns
  | Ws, _, _ => Ws
theorem bl_sum : ∀ Ws : List va_W, Ws.flatten.length = (Ws.map List.length).sum := fun Ws => List.length_flatten
theorem bl_split {Ws : List va_W} {i : Nat} (h : i < Ws.length) : Ws.flatten = (Ws.take i).flatten ++ (Ws.getD i [] ++ (Ws.drop (i + 1)).flatten) := by
  have e : Ws = Ws.take i ++ (Ws.getD i [] :: Ws.drop (i + 1)) := by
    rw [← List.getElem_eq_getD (h := h), List.getElem_cons_drop, List.take_append_drop]
  conv => lhs; rw [e]
  rw [List.flatten_append, List.flatten_cons]
theorem bl_take (Ws : List va_W) (i : Nat) : (Ws.take i).flatten.length = ((Ws.map List.length).take i).sum := by
  rw [bl_sum, List.map_take]
theorem bl_get {Ws : List va_W} {i : Nat} : (Ws.getD i []).length = (Ws.map List.length).getD i 0 := by
  rw [List.getD_eq_getElem?_getD, List.getD_eq_getElem?_getD, List.getElem?_map]
  cases Ws[i]? <;> rfl
theorem bl_ps {Ws : List va_W} {ls : List Nat} (hls : Ws.map List.length = ls) : ∀ bs : List Nat, (∀ i ∈ bs, i < Ws.length) → (bpsL ls bs).map (fun k => Ws.flatten[k]?) = (bsel Ws bs).map some
  | [], _ => rfl
  | i :: bs, h => by
    have hi := h i List.mem_cons_self
    have ih := bl_ps hls bs (fun j hj => h j (List.mem_cons_of_mem _ hj))
    subst hls
    exact lo_ps_blk (pre := (Ws.take i).flatten) (B := Ws.getD i []) (suf := (Ws.drop (i + 1)).flatten) (bl_split hi) (bl_take Ws i) bl_get ih
theorem bl_set_len {Ws : List va_W} {i : Nat} {n : va_W} (h : n.length = (Ws.getD i []).length) : (Ws.set i n).map List.length = Ws.map List.length := by
  rw [List.map_set, h]
  by_cases c : i < Ws.length
  · rw [bl_get, ← List.getElem_eq_getD (h := by rw [List.length_map]; exact c), List.set_getElem_self]
  · rw [List.set_eq_of_length_le (by rw [List.length_map]; omega)]
theorem bl_set_flat {Ws : List va_W} {i : Nat} {n : va_W} (h : i < Ws.length) : (Ws.set i n).flatten = (Ws.take i).flatten ++ (n ++ (Ws.drop (i + 1)).flatten) := by
  rw [List.set_eq_take_append_cons_drop, if_pos h, List.flatten_append, List.flatten_cons]
theorem bl_sets {ls : List Nat} : ∀ (bs : List Nat) (new : List va_W) (Ws : List va_W), Ws.map List.length = ls → (∀ i ∈ bs, i < Ws.length) → new.map List.length = bs.map (fun i => ls.getD i 0) → lo_sets Ws.flatten (bpsL ls bs) new.flatten = (brep Ws bs new).flatten
  | [], [], Ws, _, _, _ => rfl
  | [], n :: ns, Ws, _, _, h => by cases h
  | i :: bs, [], Ws, _, _, h => by cases h
  | i :: bs, n :: ns, Ws, hls, hlt, h => by
    have hi := hlt i List.mem_cons_self
    have h1 : n.length = ls.getD i 0 := (List.cons.inj h).1
    have h2 : ns.map List.length = bs.map (fun i => ls.getD i 0) := (List.cons.inj h).2
    have hn : n.length = (Ws.getD i []).length := by rw [h1, bl_get, hls]
    have ih := bl_sets bs ns (Ws.set i n) (by rw [bl_set_len hn]; exact hls) (fun j hj => by rw [List.length_set]; exact hlt j (List.mem_cons_of_mem _ hj)) h2
    show lo_sets Ws.flatten (List.range' ((ls.take i).sum) (ls.getD i 0) ++ bpsL ls bs) (n ++ ns.flatten) = (brep (Ws.set i n) bs ns).flatten
    rw [← ih, bl_split hi, bl_set_flat hi]
    exact lo_sets_blk (by rw [bl_take, hls]) (by rw [bl_get, hls]) h1
section BLK
variable {l : Launch} {X : KX} {kS : Nat → Nat} {y : MethodName} {ws : List Cond} {rm : Room} {as : List Value} {w0 : va_W} {post : Option Value → va_W → Prop} {xp : String → va_W → Prop} {mc ms : Nat}
def bpost (Ws : List va_W) (ls bs : List Nat) (q : va_W → Prop) (W : va_W) : Prop := ∃ w1, q w1 ∧ ∀ new : List va_W, new.flatten = w1 → new.map List.length = bs.map (fun i => ls.getD i 0) → W = (brep Ws bs new).flatten
theorem bl_post {Ws : List va_W} {ls bs : List Nat} {q : va_W → Prop} {W : va_W} (hls : Ws.map List.length = ls) (hlt : ∀ i ∈ bs, i < Ws.length) (h : ∃ w1, q w1 ∧ W = lo_sets Ws.flatten (bpsL ls bs) w1) : bpost Ws ls bs q W := by
  obtain ⟨w1, h1, h2⟩ := h
  refine ⟨w1, h1, fun new e hl => ?_⟩
  rw [h2, ← e]
  exact bl_sets bs new Ws hls hlt hl
theorem CM.blk (h : CM l X y ws rm as w0 post mc ms) (Ws : List va_W) (ls bs : List Nat) (hls : Ws.map List.length = ls) (hlt : ∀ i ∈ bs, i < Ws.length) (hsel : bsel Ws bs = w0) (hnd : va_nd (bpsL ls bs) = true) : CM l X y ws rm as Ws.flatten (fun v W => bpost Ws ls bs (post v) W) mc ms := by
  subst hsel
  exact (h.wide (bpsL ls bs) (bl_ps hls bs hlt) hnd).weak (fun v W q => bl_post hls hlt q)
theorem CE.blk (h : CE l X kS y ws rm as w0 post mc ms) (Ws : List va_W) (ls bs : List Nat) (hls : Ws.map List.length = ls) (hlt : ∀ i ∈ bs, i < Ws.length) (hsel : bsel Ws bs = w0) (hnd : va_nd (bpsL ls bs) = true) : CE l X kS y ws rm as Ws.flatten (fun v W => bpost Ws ls bs (post v) W) mc ms := by
  subst hsel
  exact (h.wide (bpsL ls bs) (bl_ps hls bs hlt) hnd).weak (fun v W q => bl_post hls hlt q)
theorem CT.blk (h : CT l X kS y ws rm as w0 post xp mc ms) (Ws : List va_W) (ls bs : List Nat) (hls : Ws.map List.length = ls) (hlt : ∀ i ∈ bs, i < Ws.length) (hsel : bsel Ws bs = w0) (hnd : va_nd (bpsL ls bs) = true) : CT l X kS y ws rm as Ws.flatten (fun v W => bpost Ws ls bs (post v) W) (fun E W => bpost Ws ls bs (xp E) W) mc ms := by
  subst hsel
  exact (h.wide (bpsL ls bs) (bl_ps hls bs hlt) hnd).weak (fun v W q => bl_post hls hlt q) (fun E W q => bl_post hls hlt q)
end BLK
