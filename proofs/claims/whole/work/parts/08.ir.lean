/-! an interpreter of the methods that make nothing: memory by cells and places, calls by a bound on their depth -/
abbrev ir_S : Type := Nat → Nat → Int32
abbrev ir_R : Type := Option Value × ir_S
abbrev ir_C : Type := Nat × List Value × List Value × ir_S
abbrev ir_O : Type := Option (ir_R ⊕ ir_C)
def ir_row (σ : ir_S) (a : Nat) (f : Nat → Int32) : ir_S := fun b => if b = a then f else σ b
def ir_up (σ : ir_S) (a k : Nat) (v : Int32) : ir_S := ir_row σ a (upd (σ a) k v)
def ir_look {α : Type} (t : List (List (Nat × α))) (ci ix : Nat) : Option α := ((t.getD ci []).find? (fun q => q.1 == ix)).map Prod.snd
theorem ir_look_mem {α : Type} {t : List (List (Nat × α))} {ci ix : Nat} {v : α} (h : ir_look t ci ix = some v) : ci < t.length ∧ (ix, v) ∈ t.getD ci [] := by
  unfold ir_look at h
  cases hf : (t.getD ci []).find? (fun q => q.1 == ix) with
  | none => rw [hf] at h; cases h
  | some q =>
    rw [hf] at h
    have hm := List.mem_of_find?_eq_some hf
    have hq := List.find?_some hf
    have h1 : q.1 = ix := by simpa using hq
    have h2 : q.2 = v := by simpa using h
    have h3 : q = (ix, v) := by rw [← h1, ← h2]
    rw [h3] at hm
    refine ⟨?_, hm⟩
    rcases Nat.lt_or_ge ci t.length with hl | hl
    · exact hl
    · rw [List.getD_eq_getElem?_getD, List.getElem?_eq_none hl] at hm
      cases hm
def ir_sh (i : Nat) : Option ir_Sh := ir_shl[i]?
def ir_go (pc : Nat) (L st : List Value) (σ : ir_S) : ir_O := some (.inr (pc, L, st, σ))
def ir_ln (n k : Nat) (o : ir_O) : ir_O := if n = k then o else none
def ir_ldi (L : List Value) (k : Nat) (f : Int32 → ir_O) : ir_O := match L[k]? with
  | some (.int x) => f x
  | _ => none
def ir_ldl (L : List Value) (k : Nat) (f : Int64 → ir_O) : ir_O := match L[k]? with
  | some (.long x) => f x
  | _ => none
def ir_ldr (L : List Value) (k : Nat) (f : Nat → ir_O) : ir_O := match L[k]? with
  | some (.ref x) => f x
  | _ => none
def ir_i1 (st : List Value) (f : Int32 → List Value → ir_O) : ir_O := match st with
  | .int x :: r => f x r
  | _ => none
def ir_i2 (st : List Value) (f : Int32 → Int32 → List Value → ir_O) : ir_O := match st with
  | .int y :: .int x :: r => f x y r
  | _ => none
def ir_l2 (st : List Value) (f : Int64 → Int64 → List Value → ir_O) : ir_O := match st with
  | .long y :: .long x :: r => f x y r
  | _ => none
def ir_r1 (st : List Value) (f : Nat → List Value → ir_O) : ir_O := match st with
  | .ref x :: r => f x r
  | _ => none
def ir_v1 (st : List Value) (f : Value → List Value → ir_O) : ir_O := match st with
  | .int x :: r => f (.int x) r
  | .ref x :: r => f (.ref x) r
  | _ => none
def ir_sto (mi : Nat) (L : List Value) (k : Nat) (v : Value) (f : List Value → ir_O) : ir_O := if (mi == ir_long) = true then none else if k < L.length then f (L.set k v) else none
def ir_br (pc : Nat) (off : Int) (f : Nat → ir_O) : ir_O := match off with
  | .ofNat k => f (pc + k)
  | .negSucc k => if k + 1 ≤ pc then f (pc - (k + 1)) else none
def ir_opt {α : Type} (o : Option α) (f : α → ir_O) : ir_O := match o with
  | some x => f x
  | none => none
def ir_ix (j : Int32) (n : Nat) : Prop := 0 ≤ j.toInt ∧ j.toInt < n
def ir_ixb (j : Int32) (n : Nat) : Bool := decide (0 ≤ j.toInt) && decide (j.toInt < n)
def ir_arr (a : Nat) (f : Nat → ir_O) : ir_O := match ir_sh a with
  | some (.inl n) => f n
  | _ => none
def ir_obj (a c : Nat) (f : List (Option Nat) → ir_O) : ir_O := match ir_sh a with
  | some (.inr (c', fs)) => if c' = c then f fs else none
  | _ => none
def ir_tl (v : Option Int32) : List Value := match v with
  | some x => [.int x]
  | none => []
def ir_after (o : Option ir_R) (pc : Nat) (L rest : List Value) : ir_O := match o with
  | some (some (.int x), σ) => ir_go pc L (ir_tl (some x) ++ rest) σ
  | some (none, σ) => ir_go pc L (ir_tl none ++ rest) σ
  | _ => none
def ir_acp (pc : Nat) (L st : List Value) (σ : ir_S) : ir_O := match st with
  | .int n :: .int dp :: .ref b :: .int sp :: .ref a :: rest => ir_arr a fun la => ir_arr b fun lb =>
    if sp = 0 ∧ dp = 0 ∧ 0 ≤ n.toInt ∧ n.toInt ≤ la ∧ n.toInt ≤ lb ∧ rest.length ≤ 4 then ir_go (pc + 3) L rest (ir_row σ b (va_cpy (σ a) (σ b) 0 0 n.toNatClampNeg)) else none
  | _ => none
def ir_max (x y : Int32) : Int32 := if x < y then y else x
def ir_min (x y : Int32) : Int32 := if y < x then y else x
def ir_virt (E : Nat → List Value → ir_S → Option ir_R) (mi ix pc : Nat) (L st : List Value) (σ : ir_S) : ir_O :=
  ir_opt (ir_look ir_cl (ir_own mi) ix) fun q => if q.1 = 0 then ir_r1 (st.drop (ir_na q.2)) (fun b rest => ir_obj b (ir_own q.2) fun _ =>
    if rest.length ≤ 4 then ir_after (E q.2 (.ref b :: (st.take (ir_na q.2)).reverse) σ) (pc + 3) L rest else none) else none
def ir_stat (E : Nat → List Value → ir_S → Option ir_R) (mi ix pc : Nat) (L st : List Value) (σ : ir_S) : ir_O :=
  ir_opt (ir_look ir_cl (ir_own mi) ix) fun q => if q.1 = 0 then none else if q.1 = 3 then ir_i2 st (fun x y rest => if rest.length ≤ 4 then ir_go (pc + 3) L (.int (ir_max x y) :: rest) σ else none) else if q.1 = 4 then ir_i2 st (fun x y rest => if rest.length ≤ 4 then ir_go (pc + 3) L (.int (ir_min x y) :: rest) σ else none) else
    if (st.drop (ir_na q.2)).length ≤ 4 ∧ ir_na q.2 ≤ st.length then ir_after (E q.2 (st.take (ir_na q.2)).reverse σ) (pc + 3) L (st.drop (ir_na q.2)) else none
def ir_op (E : Nat → List Value → ir_S → Option ir_R) (mi : Nat) (i : Instr) (n pc : Nat) (L st : List Value) (σ : ir_S) : ir_O := match i with
  | .aload_n k => ir_ln n 1 (ir_ldr L k.val fun a => ir_go (pc + 1) L (.ref a :: st) σ)
  | .aload k => ir_ln n 2 (ir_ldr L k fun a => ir_go (pc + 2) L (.ref a :: st) σ)
  | .iload_n k => ir_ln n 1 (ir_ldi L k.val fun x => ir_go (pc + 1) L (.int x :: st) σ)
  | .iload k => ir_ln n 2 (ir_ldi L k fun x => ir_go (pc + 2) L (.int x :: st) σ)
  | .lload_n k => ir_ln n 1 (ir_ldl L k.val fun x => ir_go (pc + 1) L (.long x :: st) σ)
  | .lload k => ir_ln n 2 (ir_ldl L k fun x => ir_go (pc + 2) L (.long x :: st) σ)
  | .iconst v => ir_ln n 1 (ir_go (pc + 1) L (.int (Int32.ofInt v) :: st) σ)
  | .bipush v => ir_ln n 2 (ir_go (pc + 2) L (.int (Int8.ofInt v).toInt32 :: st) σ)
  | .sipush v => ir_ln n 3 (ir_go (pc + 3) L (.int (Int16.ofInt v).toInt32 :: st) σ)
  | .lconst v => ir_ln n 1 (ir_go (pc + 1) L (.long (Int64.ofNat v.val) :: st) σ)
  | .ldc ix => ir_ln n 2 (ir_opt (ir_look ir_kl (ir_own mi) ix) fun v => ir_go (pc + 2) L (.int v :: st) σ)
  | .ldc_w ix => ir_ln n 3 (ir_opt (ir_look ir_kl (ir_own mi) ix) fun v => ir_go (pc + 3) L (.int v :: st) σ)
  | .ldc2_w ix => ir_ln n 3 (ir_opt (ir_look ir_jl (ir_own mi) ix) fun v => ir_go (pc + 3) L (.long v :: st) σ)
  | .istore_n k => ir_ln n 1 (ir_i1 st fun x st => ir_sto mi L k.val (.int x) fun L => ir_go (pc + 1) L st σ)
  | .istore k => ir_ln n 2 (ir_i1 st fun x st => ir_sto mi L k (.int x) fun L => ir_go (pc + 2) L st σ)
  | .iinc k v => ir_ln n 3 (ir_ldi L k fun x => ir_sto mi L k (.int (x + Int32.ofInt v)) fun L => ir_go (pc + 3) L st σ)
  | .iadd => ir_ln n 1 (ir_i2 st fun x y st => ir_go (pc + 1) L (.int (x + y) :: st) σ)
  | .isub => ir_ln n 1 (ir_i2 st fun x y st => ir_go (pc + 1) L (.int (x - y) :: st) σ)
  | .imul => ir_ln n 1 (ir_i2 st fun x y st => ir_go (pc + 1) L (.int (x * y) :: st) σ)
  | .iand => ir_ln n 1 (ir_i2 st fun x y st => ir_go (pc + 1) L (.int (x &&& y) :: st) σ)
  | .ior => ir_ln n 1 (ir_i2 st fun x y st => ir_go (pc + 1) L (.int (x ||| y) :: st) σ)
  | .ixor => ir_ln n 1 (ir_i2 st fun x y st => ir_go (pc + 1) L (.int (x ^^^ y) :: st) σ)
  | .ishl => ir_ln n 1 (ir_i2 st fun x y st => ir_go (pc + 1) L (.int (x <<< (y &&& 31)) :: st) σ)
  | .ishr => ir_ln n 1 (ir_i2 st fun x y st => ir_go (pc + 1) L (.int (x >>> (y &&& 31)) :: st) σ)
  | .iushr => ir_ln n 1 (ir_i2 st fun x y st => ir_go (pc + 1) L (.int (x.toUInt32 >>> (y.toUInt32 &&& Int32.toUInt32 31)).toInt32 :: st) σ)
  | .ineg => ir_ln n 1 (ir_i1 st fun x st => ir_go (pc + 1) L (.int (-x) :: st) σ)
  | .i2l => ir_ln n 1 (ir_i1 st fun x st => ir_go (pc + 1) L (.long x.toInt64 :: st) σ)
  | .lcmp => ir_ln n 1 (ir_l2 st fun x y st => ir_go (pc + 1) L (.int (lg_cmp x y) :: st) σ)
  | .dup => ir_ln n 1 (ir_v1 st fun v st => ir_go (pc + 1) L (v :: v :: st) σ)
  | .dup2 => ir_ln n 1 (ir_v1 st fun v st => ir_v1 st fun w st => ir_go (pc + 1) L (v :: w :: v :: w :: st) σ)
  | .pop => ir_ln n 1 (ir_v1 st fun _ st => ir_go (pc + 1) L st σ)
  | .goto off => ir_ln n 3 (ir_br pc off fun t => ir_go t L st σ)
  | .ifCond .eq off => ir_ln n 3 (ir_i1 st fun x st => ir_br pc off fun t => if x = 0 then ir_go t L st σ else ir_go (pc + 3) L st σ)
  | .ifCond .ne off => ir_ln n 3 (ir_i1 st fun x st => ir_br pc off fun t => if x = 0 then ir_go (pc + 3) L st σ else ir_go t L st σ)
  | .ifCond .lt off => ir_ln n 3 (ir_i1 st fun x st => ir_br pc off fun t => if x < 0 then ir_go t L st σ else ir_go (pc + 3) L st σ)
  | .ifCond .ge off => ir_ln n 3 (ir_i1 st fun x st => ir_br pc off fun t => if 0 ≤ x then ir_go t L st σ else ir_go (pc + 3) L st σ)
  | .ifCond .gt off => ir_ln n 3 (ir_i1 st fun x st => ir_br pc off fun t => if 0 < x then ir_go t L st σ else ir_go (pc + 3) L st σ)
  | .ifCond .le off => ir_ln n 3 (ir_i1 st fun x st => ir_br pc off fun t => if x ≤ 0 then ir_go t L st σ else ir_go (pc + 3) L st σ)
  | .if_icmp .eq off => ir_ln n 3 (ir_i2 st fun x y st => ir_br pc off fun t => if x = y then ir_go t L st σ else ir_go (pc + 3) L st σ)
  | .if_icmp .ne off => ir_ln n 3 (ir_i2 st fun x y st => ir_br pc off fun t => if x = y then ir_go (pc + 3) L st σ else ir_go t L st σ)
  | .if_icmp .lt off => ir_ln n 3 (ir_i2 st fun x y st => ir_br pc off fun t => if x < y then ir_go t L st σ else ir_go (pc + 3) L st σ)
  | .if_icmp .ge off => ir_ln n 3 (ir_i2 st fun x y st => ir_br pc off fun t => if y ≤ x then ir_go t L st σ else ir_go (pc + 3) L st σ)
  | .if_icmp .gt off => ir_ln n 3 (ir_i2 st fun x y st => ir_br pc off fun t => if y < x then ir_go t L st σ else ir_go (pc + 3) L st σ)
  | .if_icmp .le off => ir_ln n 3 (ir_i2 st fun x y st => ir_br pc off fun t => if x ≤ y then ir_go t L st σ else ir_go (pc + 3) L st σ)
  | .tableswitch d lo hi offs => ir_i1 st fun x st => if x.toInt < lo ∨ hi < x.toInt then ir_br pc d (fun t => ir_go t L st σ) else ir_opt offs[(x.toInt - lo).toNat]? fun o => ir_br pc o (fun t => ir_go t L st σ)
  | .arraylength => ir_ln n 1 (ir_r1 st fun a st => ir_arr a fun k => ir_go (pc + 1) L (.int (Int32.ofNat k) :: st) σ)
  | .iaload => ir_ln n 1 (ir_i1 st fun j st => ir_r1 st fun a st => ir_arr a fun k => if ir_ixb j k = true then ir_go (pc + 1) L (.int (σ a j.toNatClampNeg) :: st) σ else none)
  | .iastore => ir_ln n 1 (ir_i2 st fun j x st => ir_r1 st fun a st => ir_arr a fun k => if ir_ixb j k = true then ir_go (pc + 1) L st (ir_up σ a j.toNatClampNeg x) else none)
  | .getfield ix => ir_ln n 3 (ir_r1 st fun a st => ir_opt (ir_look ir_fl (ir_own mi) ix) fun q => ir_obj a (ir_own mi) fun fs => ir_opt fs[q.1]? fun f => match f with
    | some j => ir_go (pc + 3) L (.ref j :: st) σ
    | none => ir_go (pc + 3) L (.int (σ a q.1) :: st) σ)
  | .putfield ix => ir_ln n 3 (ir_i1 st fun x st => ir_r1 st fun a st => ir_opt (ir_look ir_fl (ir_own mi) ix) fun q => ir_obj a (ir_own mi) fun fs => ir_opt fs[q.1]? fun f => match f with
    | some _ => none
    | none => if q.2 = 1 ∨ q.2 = 2 ∧ (x = 0 ∨ x = 1) then ir_go (pc + 3) L st (ir_up σ a q.1 x) else none)
  | .invokevirtual ix => ir_ln n 3 (ir_virt E mi ix pc L st σ)
  | .invokestatic ix => ir_ln n 3 (if ir_own mi = 5 ∧ ix = ir_aci then ir_acp pc L st σ else ir_stat E mi ix pc L st σ)
  | .ireturn => ir_ln n 1 (match ir_ret mi, st with
    | some .int, [.int x] => some (.inl (some (.int x), σ))
    | some .boolean, [.int x] => if x = 0 ∨ x = 1 then some (.inl (some (.int x), σ)) else none
    | _, _ => none)
  | .return_ => ir_ln n 1 (match ir_ret mi, st with
    | none, [] => some (.inl (none, σ))
    | _, _ => none)
  | _ => none
def ir_step (E : Nat → List Value → ir_S → Option ir_R) (mi : Nat) (cf : ir_C) : ir_O := match decode (ir_code mi) cf.1 with
  | .ok q => ir_op E mi q.1 q.2 cf.1 cf.2.1 cf.2.2.1 cf.2.2.2
  | _ => none
def ir_it (f : ir_C → ir_O) : Nat → ir_C → Option ir_R
  | 0, _ => none
  | k + 1, c => match f c with
    | none => none
    | some (.inl r) => some r
    | some (.inr c') => ir_it f k c'
theorem ir_it_mono (f : ir_C → ir_O) (r : ir_R) : ∀ (k : Nat) (c : ir_C), ir_it f k c = some r → ∀ j, ir_it f (k + j) c = some r := by
  intro k
  induction k with
  | zero => intro c h; cases h
  | succ k ih =>
    intro c h j
    rw [show k + 1 + j = (k + j) + 1 by omega]
    unfold ir_it at h ⊢
    cases hf : f c with
    | none => rw [hf] at h; cases h
    | some o =>
      rw [hf] at h
      cases o with
      | inl r' => exact h
      | inr c' => exact ih c' h j
noncomputable def ir_loop (f : ir_C → ir_O) (c : ir_C) : Option ir_R :=
  @dite (Option ir_R) (∃ k : Nat, ∃ r : ir_R, ir_it f k c = some r) (Classical.propDecidable _) (fun h => ir_it f (Classical.choose h) c) (fun _ => none)
theorem ir_loop_some {f : ir_C → ir_O} {c : ir_C} {r : ir_R} : ir_loop f c = some r ↔ ∃ k : Nat, ir_it f k c = some r := by
  unfold ir_loop
  constructor
  · intro h
    by_cases hh : ∃ k : Nat, ∃ r : ir_R, ir_it f k c = some r
    · rw [dif_pos hh] at h
      exact ⟨_, h⟩
    · rw [dif_neg hh] at h
      cases h
  · rintro ⟨k, h⟩
    have hh : ∃ k : Nat, ∃ r : ir_R, ir_it f k c = some r := ⟨k, r, h⟩
    rw [dif_pos hh]
    obtain ⟨r', h'⟩ := Classical.choose_spec hh
    rw [h']
    have a := ir_it_mono f r' _ c h' k
    have b := ir_it_mono f r _ c h (Classical.choose hh)
    rw [Nat.add_comm] at b
    rw [a] at b
    exact b
theorem ir_loop_eq (f : ir_C → ir_O) (c : ir_C) : ir_loop f c = match f c with
    | none => none
    | some (.inl r) => some r
    | some (.inr c') => ir_loop f c' := by
  apply Option.ext
  intro r
  have e : (ir_loop f c = some r) ↔ ∃ k : Nat, ir_it f k c = some r := ir_loop_some
  rw [e]
  constructor
  · rintro ⟨k, h⟩
    cases k with
    | zero => cases h
    | succ k =>
      unfold ir_it at h
      cases hf : f c with
      | none => rw [hf] at h; cases h
      | some o =>
        rw [hf] at h
        cases o with
        | inl r' => exact h
        | inr c' => exact ir_loop_some.mpr ⟨k, h⟩
  · intro h
    cases hf : f c with
    | none => rw [hf] at h; cases h
    | some o =>
      rw [hf] at h
      cases o with
      | inl r' => exact ⟨1, by unfold ir_it; rw [hf]; exact h⟩
      | inr c' =>
        obtain ⟨k, hk⟩ := ir_loop_some.mp h
        exact ⟨k + 1, by unfold ir_it; rw [hf]; exact hk⟩
noncomputable def ir_run (E : Nat → List Value → ir_S → Option ir_R) (mi : Nat) (cf : ir_C) : Option ir_R := ir_loop (ir_step E mi) cf
def ir_fl1 (vs : List Value) : List Value := vs.flatMap fun v => if v.category = 2 then [v, .null] else [v]
def ir_c1 (v : Value) : Bool := match v with
  | .int _ => true
  | .ref _ => true
  | _ => false
def ir_ok (mi : Nat) (vs : List Value) : Bool := decide ((ir_fl1 vs).length ≤ ir_nL mi) && ((mi == ir_long) || vs.all ir_c1)
def ir_init (mi : Nat) (vs : List Value) : List Value := ir_fl1 vs ++ List.replicate (ir_nL mi - (ir_fl1 vs).length) .null
noncomputable def ir_ev : Nat → Nat → List Value → ir_S → Option ir_R
  | 0, _, _, _ => none
  | d + 1, mi, vs, σ => if ir_ok mi vs = true then ir_run (ir_ev d) mi (0, ir_init mi vs, [], σ) else none
/-! one step, as an equation -/
noncomputable def ir_cont (E : Nat → List Value → ir_S → Option ir_R) (mi : Nat) (o : ir_O) : Option ir_R := match o with
  | none => none
  | some (.inl r) => some r
  | some (.inr c') => ir_run E mi c'
theorem ir_at {E : Nat → List Value → ir_S → Option ir_R} {mi pc n : Nat} {i : Instr} {bs : ByteArray} {L st : List Value} {σ : ir_S} {o : ir_O} (hc : ir_code mi = bs) (hd : decode bs pc = .ok (i, n)) (h : ir_op E mi i n pc L st σ = o) :
    ir_run E mi (pc, L, st, σ) = ir_cont E mi o := by
  have e : ir_step E mi (pc, L, st, σ) = o := by
    unfold ir_step
    rw [hc]
    show (match decode bs pc with | .ok q => ir_op E mi q.1 q.2 pc L st σ | _ => none) = o
    rw [hd]
    exact h
  unfold ir_run
  rw [ir_loop_eq, e]
  rfl
theorem ir_nx {E : Nat → List Value → ir_S → Option ir_R} {mi pc n : Nat} {i : Instr} {bs : ByteArray} {L st : List Value} {σ : ir_S} {c' : ir_C} (hc : ir_code mi = bs) (hd : decode bs pc = .ok (i, n)) (h : ir_op E mi i n pc L st σ = some (.inr c')) : ir_run E mi (pc, L, st, σ) = ir_run E mi c' := ir_at hc hd h
theorem ir_rt {E : Nat → List Value → ir_S → Option ir_R} {mi pc n : Nat} {i : Instr} {bs : ByteArray} {L st : List Value} {σ : ir_S} {r : ir_R} (hc : ir_code mi = bs) (hd : decode bs pc = .ok (i, n)) (h : ir_op E mi i n pc L st σ = some (.inl r)) : ir_run E mi (pc, L, st, σ) = some r := ir_at hc hd h
theorem ir_if {E : Nat → List Value → ir_S → Option ir_R} {mi pc n : Nat} {i : Instr} {bs : ByteArray} {L st : List Value} {σ : ir_S} {P : Prop} {dP : Decidable P} {c1 c2 : ir_C} (hc : ir_code mi = bs) (hd : decode bs pc = .ok (i, n)) (h : ir_op E mi i n pc L st σ = if P then some (.inr c1) else some (.inr c2)) : ir_run E mi (pc, L, st, σ) = if P then ir_run E mi c1 else ir_run E mi c2 := by
  rw [ir_at hc hd h]
  by_cases hp : P
  · rw [if_pos hp, if_pos hp]; rfl
  · rw [if_neg hp, if_neg hp]; rfl
theorem ir_gd {E : Nat → List Value → ir_S → Option ir_R} {mi pc n : Nat} {i : Instr} {bs : ByteArray} {L st : List Value} {σ : ir_S} {P : Prop} {dP : Decidable P} {c1 : ir_C} (hc : ir_code mi = bs) (hd : decode bs pc = .ok (i, n)) (h : ir_op E mi i n pc L st σ = if P then some (.inr c1) else none) : ir_run E mi (pc, L, st, σ) = if P then ir_run E mi c1 else none := by
  rw [ir_at hc hd h]
  by_cases hp : P
  · rw [if_pos hp, if_pos hp]; rfl
  · rw [if_neg hp, if_neg hp]; rfl
theorem ir_gr {E : Nat → List Value → ir_S → Option ir_R} {mi pc n : Nat} {i : Instr} {bs : ByteArray} {L st : List Value} {σ : ir_S} {P : Prop} {dP : Decidable P} {r : ir_R} (hc : ir_code mi = bs) (hd : decode bs pc = .ok (i, n)) (h : ir_op E mi i n pc L st σ = if P then some (.inl r) else none) : ir_run E mi (pc, L, st, σ) = if P then some r else none := by
  rw [ir_at hc hd h]
  by_cases hp : P
  · rw [if_pos hp, if_pos hp]; rfl
  · rw [if_neg hp, if_neg hp]; rfl
def ir_k (o : Option ir_R) (f : Option Int32 → ir_S → Option ir_R) : Option ir_R := match o with
  | some (some (.int x), σ) => f (some x) σ
  | some (none, σ) => f none σ
  | _ => none
theorem ir_k_i (x : Int32) (σ : ir_S) (f : Option Int32 → ir_S → Option ir_R) : ir_k (some (some (.int x), σ)) f = f (some x) σ := rfl
theorem ir_k_v (σ : ir_S) (f : Option Int32 → ir_S → Option ir_R) : ir_k (some (none, σ)) f = f none σ := rfl
theorem ir_tl_i (x : Int32) (r : List Value) : ir_tl (some x) ++ r = .int x :: r := rfl
theorem ir_tl_v (r : List Value) : ir_tl none ++ r = r := rfl
theorem ir_ca {E : Nat → List Value → ir_S → Option ir_R} {mi pc n : Nat} {i : Instr} {bs : ByteArray} {L st : List Value} {σ : ir_S} {o : Option ir_R} {pc' : Nat} {L' rest : List Value} (hc : ir_code mi = bs) (hd : decode bs pc = .ok (i, n)) (h : ir_op E mi i n pc L st σ = ir_after o pc' L' rest) : ir_run E mi (pc, L, st, σ) = ir_k o (fun v σ' => ir_run E mi (pc', L', ir_tl v ++ rest, σ')) := by
  rw [ir_at hc hd h]
  match o with
  | none => rfl
  | some (none, _) => rfl
  | some (some (.int _), _) => rfl
  | some (some (.long _), _) => rfl
  | some (some (.float _), _) => rfl
  | some (some (.double _), _) => rfl
  | some (some .null, _) => rfl
  | some (some (.ref _), _) => rfl
  | some (some (.retAddr _), _) => rfl
theorem ir_en {d mi : Nat} {vs L : List Value} {σ : ir_S} (h : ir_ok mi vs = true) (hL : ir_init mi vs = L) : ir_ev (d + 1) mi vs σ = ir_run (ir_ev d) mi (0, L, [], σ) := by
  show (if ir_ok mi vs = true then ir_run (ir_ev d) mi (0, ir_init mi vs, [], σ) else none) = _
  rw [if_pos h, hL]
