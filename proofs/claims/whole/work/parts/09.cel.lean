theorem ir_T_self : GoodIn ir_T ir_T := fun w h => ⟨h, (ir_T_good w h).2⟩
def ir_W (mi : Nat) : List Cond := .code (ir_m mi).1 (ir_code mi) (ir_nL mi) (ir_ret mi) :: ir_T
def ir_mP (q : ir_MR) : Prop := Jvm.plainName q.1.cls = true ∧ q.1.cls ≠ "java/lang/invoke/MethodHandle" ∧ q.1.cls ≠ "java/lang/invoke/VarHandle" ∧ (parseMethodDescriptor q.1.desc).map (fun d => d.parameters.length) = some q.2.2.2.2.2 ∧ q.2.2.1 ≤ 20 ∧ q.1.cls = ir_Rn q.2.2.2.2.1 ∧ q.2.2.2.2.1 < 13
theorem ir_mok_l : ∀ q ∈ ir_ml, ir_mP q := by
  unfold ir_mP
  decide +kernel
theorem ir_m_mem (mi : Nat) : ir_m mi ∈ ir_ml := by
  unfold ir_m
  rw [List.getD_eq_getElem?_getD]
  rcases Nat.lt_or_ge mi ir_ml.length with h | h
  · rw [List.getElem?_eq_getElem h]
    exact List.getElem_mem h
  · rw [List.getElem?_eq_none h]
    exact List.mem_of_getElem? (i := 0) rfl
theorem ir_mok (mi : Nat) : ir_mP (ir_m mi) := ir_mok_l _ (ir_m_mem mi)
theorem ir_in1 (mi : Nat) : Cond.code (ir_m mi).1 (ir_code mi) (ir_nL mi) (ir_ret mi) ∈ ir_T ∧ Cond.initialized (ir_m mi).1.cls ∈ ir_T := by
  have h := ir_m_mem mi
  exact ⟨List.mem_append_left _ (List.mem_flatMap.mpr ⟨_, h, List.mem_cons_self⟩), List.mem_append_left _ (List.mem_flatMap.mpr ⟨_, h, List.mem_cons_of_mem _ List.mem_cons_self⟩)⟩
theorem ir_W_good (mi : Nat) : GoodIn ir_T (ir_W mi) := by
  intro w hw
  rcases List.mem_cons.mp hw with rfl | hw
  · exact ir_T_self _ (ir_in1 mi).1
  · exact ir_T_self _ hw
theorem ir_in2 {c ix kind k : Nat} (h : ir_look ir_cl c ix = some (kind, k)) : ∀ w ∈ ir_cw c (ix, kind, k), w ∈ ir_T := by
  intro w hw
  obtain ⟨h1, h2⟩ := ir_look_mem h
  refine List.mem_append_right _ (List.mem_append_left _ (List.mem_flatMap.mpr ⟨c, List.mem_range.mpr h1, List.mem_flatMap.mpr ⟨_, h2, hw⟩⟩))
theorem ir_in3 {c ix k kind : Nat} (h : ir_look ir_fl c ix = some (k, kind)) : ir_fw c (ix, k, kind) ∈ ir_T := by
  obtain ⟨h1, h2⟩ := ir_look_mem h
  exact List.mem_append_right _ (List.mem_append_right _ (List.mem_append_left _ (List.mem_flatMap.mpr ⟨c, List.mem_range.mpr h1, List.mem_map.mpr ⟨_, h2, rfl⟩⟩)))
theorem ir_in4 {c : Nat} (h : c < 10) : ∀ w ∈ u_ws (ir_C1 c).1 (ir_C1 c).2.1 (ir_C1 c).2.2, w ∈ ir_T := fun w hw =>
  List.mem_append_right _ (List.mem_append_right _ (List.mem_append_right _ (List.mem_append_left _ (List.mem_flatMap.mpr ⟨c, List.mem_range.mpr h, hw⟩))))
theorem ir_in5 {c ix : Nat} {v : Int32} (h : ir_look ir_kl c ix = some v) : Cond.constant (ir_Rn c) ix v ∈ ir_T := by
  obtain ⟨h1, h2⟩ := ir_look_mem h
  exact List.mem_append_right _ (List.mem_append_right _ (List.mem_append_right _ (List.mem_append_right _ (List.mem_append_left _ (List.mem_flatMap.mpr ⟨c, List.mem_range.mpr h1, List.mem_map.mpr ⟨_, h2, rfl⟩⟩)))))
theorem ir_in6 {c ix : Nat} {v : Int64} (h : ir_look ir_jl c ix = some v) : Cond.constantLong (ir_Rn c) ix v ∈ ir_T := by
  obtain ⟨h1, h2⟩ := ir_look_mem h
  exact List.mem_append_right _ (List.mem_append_right _ (List.mem_append_right _ (List.mem_append_right _ (List.mem_append_right _ (List.mem_append_left _ (List.mem_flatMap.mpr ⟨c, List.mem_range.mpr h1, List.mem_map.mpr ⟨_, h2, rfl⟩⟩))))))
theorem ir_in7 : ∀ w ∈ ir_T7, w ∈ ir_T := fun _ hw => List.mem_append_right _ (List.mem_append_right _ (List.mem_append_right _ (List.mem_append_right _ (List.mem_append_right _ (List.mem_append_right _ hw)))))
theorem ir_fok_l : ∀ c, c < 10 → ∀ q ∈ ir_fl.getD c [], q.2.1 < (ir_C1 c).2.2 ∧ ((ir_C1 c).2.1 q.2.1).1 = (ir_C1 c).1 ∧ (q.2.2 = 1 → ((ir_C1 c).2.1 q.2.1).2.2.1 = "I" ∧ ((ir_C1 c).2.1 q.2.1).2.2.2 = false) ∧ (q.2.2 = 2 → ((ir_C1 c).2.1 q.2.1).2.2.1 = "Z" ∧ ((ir_C1 c).2.1 q.2.1).2.2.2 = false) := by decide +kernel
theorem ir_fok {c ix k kind : Nat} (h : ir_look ir_fl c ix = some (k, kind)) : c < 10 ∧ k < (ir_C1 c).2.2 ∧ ((ir_C1 c).2.1 k).1 = (ir_C1 c).1 ∧ (kind = 1 → ((ir_C1 c).2.1 k).2.2.1 = "I" ∧ ((ir_C1 c).2.1 k).2.2.2 = false) ∧ (kind = 2 → ((ir_C1 c).2.1 k).2.2.1 = "Z" ∧ ((ir_C1 c).2.1 k).2.2.2 = false) := by
  obtain ⟨h1, h2⟩ := ir_look_mem h
  exact ⟨h1, ir_fok_l c h1 _ h2⟩
theorem ir_C1_get {c : Nat} (h : c < 10) : vwCl[c]? = some ((ir_C1 c).1, (ir_C1 c).2.1, (ir_C1 c).2.2) := by
  match c, h with
  | 0, _ => rfl
  | 1, _ => rfl
  | 2, _ => rfl
  | 3, _ => rfl
  | 4, _ => rfl
  | 5, _ => rfl
  | 6, _ => rfl
  | 7, _ => rfl
  | 8, _ => rfl
  | 9, _ => rfl
  | n + 10, h => exact absurd h (by omega)
theorem ir_C1_R {c : Nat} (h : c < 10) : (ir_C1 c).1 = ir_Rn c := by
  match c, h with
  | 0, _ => rfl
  | 1, _ => rfl
  | 2, _ => rfl
  | 3, _ => rfl
  | 4, _ => rfl
  | 5, _ => rfl
  | 6, _ => rfl
  | 7, _ => rfl
  | 8, _ => rfl
  | 9, _ => rfl
  | n + 10, h => exact absurd h (by omega)
def ir_ty (c : Nat) : Nat → FieldType := ([tyX0, tyX1, tyX2, tyX3, tyX4, tyX5, tyX6, tyX7, tyX8, tyX9] : List (Nat → FieldType)).getD c tyX0
theorem ir_ty_ok {c : Nat} (h : c < 10) : ∀ k, k < (ir_C1 c).2.2 → parseFieldDescriptor ((ir_C1 c).2.1 k).2.2.1 = some (ir_ty c k) := by
  match c, h with
  | 0, _ => exact tyX0_ok
  | 1, _ => exact tyX1_ok
  | 2, _ => exact tyX2_ok
  | 3, _ => exact tyX3_ok
  | 4, _ => exact tyX4_ok
  | 5, _ => exact tyX5_ok
  | 6, _ => exact tyX6_ok
  | 7, _ => exact tyX7_ok
  | 8, _ => exact tyX8_ok
  | 9, _ => exact tyX9_ok
  | n + 10, h => exact absurd h (by omega)
theorem ir_nm_ok {c : Nat} (h : c < 10) : ∀ a, a < (ir_C1 c).2.2 → ∀ b, b < (ir_C1 c).2.2 → a ≠ b → ((ir_C1 c).2.1 a).2.1 ≠ ((ir_C1 c).2.1 b).2.1 := by
  match c, h with
  | 0, _ => exact nmX0
  | 1, _ => exact nmX1
  | 2, _ => exact nmX2
  | 3, _ => exact nmX3
  | 4, _ => exact nmX4
  | 5, _ => exact nmX5
  | 6, _ => exact nmX6
  | 7, _ => exact nmX7
  | 8, _ => exact nmX8
  | 9, _ => exact nmX9
  | n + 10, h => exact absurd h (by omega)
/-! cells -/
def ir_cv (ad : Nat → Nat) (v : Value) : Value := match v with
  | .ref a => .ref (ad a)
  | v => v
theorem ir_cv_cat (ad : Nat → Nat) (v : Value) : (ir_cv ad v).category = v.category := by cases v <;> rfl
def ir_f1 (ad : Nat → Nat) (g : Nat → Int32) (k : Nat) (f : Option Nat) : Value := match f with
  | some j => .ref (ad j)
  | none => .int (g k)
def ir_fv (ad : Nat → Nat) (g : Nat → Int32) (fs : List (Option Nat)) : List Value := fs.mapIdx (ir_f1 ad g)
def ir_cell (ad : Nat → Nat) (cI : ClassId) (σ : ir_S) (i : Nat) : va_E := match ir_sh i with
  | some (.inl n) => .inl (cI, n, .inl (σ i))
  | some (.inr (c, fs)) => .inr (c, ir_fv ad (σ i) fs)
  | none => .inr (0, [])
def ir_ws (ad : Nat → Nat) (cI : ClassId) (σ : ir_S) : va_W := (List.range 58).map fun i => (ad i, ir_cell ad cI σ i)
def ir_A (ad : Nat → Nat) : Nat → Prop := fun q => ∃ i, i < 58 ∧ q = ad i
theorem ir_sh_lt {i : Nat} {x : ir_Sh} (h : ir_sh i = some x) : i < 58 := (List.getElem?_eq_some_iff.mp h).1
theorem ir_ws_get {ad : Nat → Nat} {cI : ClassId} {σ : ir_S} {i : Nat} (h : i < 58) : (ir_ws ad cI σ)[i]? = some (ad i, ir_cell ad cI σ i) := by
  unfold ir_ws
  rw [List.getElem?_map, List.getElem?_range h]
  rfl
theorem ir_ws_some {ad : Nat → Nat} {cI : ClassId} {σ : ir_S} {i : Nat} {q : Nat × va_E} (h : (ir_ws ad cI σ)[i]? = some q) : i < 58 ∧ q = (ad i, ir_cell ad cI σ i) := by
  have hl : i < 58 := by
    have := (List.getElem?_eq_some_iff.mp h).1
    unfold ir_ws at this
    simpa using this
  rw [ir_ws_get hl] at h
  exact ⟨hl, (Option.some.inj h).symm⟩
theorem ir_ws_arr {ad : Nat → Nat} {cI : ClassId} {σ : ir_S} {i n : Nat} (h : ir_sh i = some (.inl n)) : (ir_ws ad cI σ)[i]? = some (ad i, .inl (cI, n, .inl (σ i))) := by
  rw [ir_ws_get (ir_sh_lt h)]
  unfold ir_cell
  rw [h]
theorem ir_ws_obj {ad : Nat → Nat} {cI : ClassId} {σ : ir_S} {i c : Nat} {fs : List (Option Nat)} (h : ir_sh i = some (.inr (c, fs))) : (ir_ws ad cI σ)[i]? = some (ad i, .inr (c, ir_fv ad (σ i) fs)) := by
  rw [ir_ws_get (ir_sh_lt h)]
  unfold ir_cell
  rw [h]
theorem ir_D {ad : Nat → Nat} {cI : ClassId} {σ : ir_S} (hi : ∀ i j, i < 58 → j < 58 → ad i = ad j → i = j) : va_D (ir_A ad) (ir_ws ad cI σ) := by
  refine ⟨fun i j p q hp hq h => ?_, fun k q hk => ?_⟩
  · obtain ⟨h1, rfl⟩ := ir_ws_some hp
    obtain ⟨h2, rfl⟩ := ir_ws_some hq
    exact hi i j h1 h2 h
  · obtain ⟨h1, rfl⟩ := ir_ws_some hk
    exact ⟨k, h1, rfl⟩
theorem ir_ws_set {ad : Nat → Nat} {cI : ClassId} {σ σ' : ir_S} {i : Nat} {e : va_E} (h : i < 58) (he : ir_cell ad cI σ' i = e) (ho : ∀ j, j ≠ i → σ' j = σ j) : (ir_ws ad cI σ).set i (ad i, e) = ir_ws ad cI σ' := by
  apply List.ext_getElem?
  intro j
  by_cases hj : j = i
  · subst hj
    rw [List.getElem?_set_self (by unfold ir_ws; simpa using h), ir_ws_get h, he]
  · rw [List.getElem?_set_ne (Ne.symm hj)]
    rcases Nat.lt_or_ge j 58 with hl | hl
    · rw [ir_ws_get hl, ir_ws_get hl]
      have : ir_cell ad cI σ j = ir_cell ad cI σ' j := by
        unfold ir_cell
        rw [ho j hj]
      rw [this]
    · rw [List.getElem?_eq_none (by unfold ir_ws; simpa using hl), List.getElem?_eq_none (by unfold ir_ws; simpa using hl)]
theorem ir_row_self (σ : ir_S) (a : Nat) (f : Nat → Int32) : ir_row σ a f a = f := by unfold ir_row; rw [if_pos rfl]
theorem ir_row_ne (σ : ir_S) {a b : Nat} (f : Nat → Int32) (h : b ≠ a) : ir_row σ a f b = σ b := by unfold ir_row; rw [if_neg h]
theorem ir_ws_row {ad : Nat → Nat} {cI : ClassId} {σ : ir_S} {i n : Nat} (h : ir_sh i = some (.inl n)) (f : Nat → Int32) : (ir_ws ad cI σ).set i (ad i, .inl (cI, n, .inl f)) = ir_ws ad cI (ir_row σ i f) := by
  refine ir_ws_set (ir_sh_lt h) ?_ (fun j hj => ir_row_ne σ f hj)
  unfold ir_cell
  rw [h, ir_row_self]
theorem ir_fv_get {ad : Nat → Nat} {g : Nat → Int32} {fs : List (Option Nat)} {k : Nat} {f : Option Nat} (h : fs[k]? = some f) : (ir_fv ad g fs)[k]? = some (ir_f1 ad g k f) := by
  unfold ir_fv
  rw [List.getElem?_mapIdx, h]
  rfl
theorem ir_fv_set {ad : Nat → Nat} {g : Nat → Int32} {fs : List (Option Nat)} {k : Nat} (h : fs[k]? = some none) (v : Int32) : (ir_fv ad g fs).set k (.int v) = ir_fv ad (upd g k v) fs := by
  apply List.ext_getElem?
  intro j
  have hl : k < fs.length := (List.getElem?_eq_some_iff.mp h).1
  by_cases hj : j = k
  · subst hj
    rw [List.getElem?_set_self (by unfold ir_fv; simpa using hl), ir_fv_get h]
    simp [upd, ir_f1]
  · rw [List.getElem?_set_ne (Ne.symm hj)]
    unfold ir_fv
    rw [List.getElem?_mapIdx, List.getElem?_mapIdx]
    cases fs[j]? with
    | none => rfl
    | some f =>
      cases f with
      | some _ => rfl
      | none => simp [upd, hj, ir_f1]
theorem ir_ws_put {ad : Nat → Nat} {cI : ClassId} {σ : ir_S} {i c k : Nat} {fs : List (Option Nat)} (h : ir_sh i = some (.inr (c, fs))) (hk : fs[k]? = some none) (v : Int32) : (ir_ws ad cI σ).set i (ad i, .inr (c, (ir_fv ad (σ i) fs).set k (.int v))) = ir_ws ad cI (ir_up σ i k v) := by
  refine ir_ws_set (ir_sh_lt h) ?_ (fun j hj => ir_row_ne σ _ hj)
  unfold ir_cell
  rw [h]
  unfold ir_up
  rw [ir_row_self, ir_fv_set hk]
theorem ir_ixb_in {j : Int32} {n : Nat} (h : ir_ixb j n = true) : vp_in j n := by
  unfold ir_ixb at h
  rw [Bool.and_eq_true, decide_eq_true_iff, decide_eq_true_iff] at h
  exact vp_in_iff.mpr h
/-! locals -/
def ir_pr (ad : Nat → Nat) (k : Nat) (v : Value) : Option (Nat × Value) := match v with
  | .null => none
  | v => some (k, ir_cv ad v)
def ir_pairs (ad : Nat → Nat) (L : List Value) : List (Nat × Value) := (List.range L.length).filterMap fun k => L[k]?.bind (ir_pr ad k)
theorem ir_pairs_mem {ad : Nat → Nat} {L : List Value} {k : Nat} {v : Value} (h : L[k]? = some v) (hn : v ≠ .null) : (k, ir_cv ad v) ∈ ir_pairs ad L := by
  refine List.mem_filterMap.mpr ⟨k, List.mem_range.mpr (List.getElem?_eq_some_iff.mp h).1, ?_⟩
  rw [h]
  cases v <;> first | rfl | exact absurd rfl hn
theorem ir_pairs_of {ad : Nat → Nat} {L : List Value} {q : Nat × Value} (h : q ∈ ir_pairs ad L) : ∃ v, L[q.1]? = some v ∧ v ≠ .null ∧ q.2 = ir_cv ad v := by
  obtain ⟨k, -, hk⟩ := List.mem_filterMap.mp h
  cases hL : L[k]? with
  | none => rw [hL] at hk; cases hk
  | some v =>
    rw [hL] at hk
    cases v <;> first | (cases hk; done) | (cases hk; exact ⟨_, hL, (fun h => by cases h), rfl⟩)
def ir_LR (ad : Nat → Nat) (ls : Array Slot) (L : List Value) : Prop := lv_has ls L.length (ir_pairs ad L)
theorem ir_LR_get {ad : Nat → Nat} {ls : Array Slot} {L : List Value} (h : ir_LR ad ls L) {k : Nat} {v : Value} (hk : L[k]? = some v) (hn : v ≠ .null) : ls[k]? = some (.val (ir_cv ad v)) := h.2.2 _ (ir_pairs_mem hk hn)
theorem ir_LR_set {ad : Nat → Nat} {ls' : Array Slot} {L : List Value} {k : Nat} {x : Int32} (hc : ∀ v ∈ L, v.category = 1) (h : lv_has ls' L.length ((k, Value.int x) :: (ir_pairs ad L).filter (fun q => !(q.1 == k) && !(q.1 + 1 == k && q.2.category == 2)))) : ir_LR ad ls' (L.set k (.int x)) := by
  refine ⟨by rw [List.length_set]; exact h.1, h.2.1, fun q hq => ?_⟩
  obtain ⟨v, h1, h2, h3⟩ := ir_pairs_of hq
  by_cases hk : q.1 = k
  · have : v = .int x := by
      rw [hk] at h1
      have hl : k < L.length := by
        have := (List.getElem?_eq_some_iff.mp h1).1
        simpa using this
      rw [List.getElem?_set_self hl] at h1
      exact (Option.some.inj h1).symm
    have e : q = (k, Value.int x) := by
      rw [← hk]
      rw [this] at h3
      have h4 : q.2 = Value.int x := h3
      rw [← h4]
    rw [e]
    exact h.2.2 _ List.mem_cons_self
  · rw [List.getElem?_set_ne (Ne.symm hk)] at h1
    have e : q = (q.1, ir_cv ad v) := by rw [← h3]
    have hm : q ∈ ir_pairs ad L := by rw [e]; exact ir_pairs_mem h1 h2
    refine h.2.2 q (List.mem_cons_of_mem _ (List.mem_filter.mpr ⟨hm, ?_⟩))
    have hcat : q.2.category = 1 := by rw [h3, ir_cv_cat]; exact hc v (List.mem_of_getElem? h1)
    simp [hk, hcat]
theorem ir_fl1_len (ad : Nat → Nat) (vs : List Value) : (lg_sl (vs.map (ir_cv ad))).length = (ir_fl1 vs).length := by
  induction vs with
  | nil => rfl
  | cons v vs ih =>
    have e1 : lg_sl ((v :: vs).map (ir_cv ad)) = (if (ir_cv ad v).category = 2 then [.val (ir_cv ad v), .second] else [.val (ir_cv ad v)]) ++ lg_sl (vs.map (ir_cv ad)) := by simp [lg_sl]
    have e2 : ir_fl1 (v :: vs) = (if v.category = 2 then [v, .null] else [v]) ++ ir_fl1 vs := by simp [ir_fl1]
    rw [e1, e2, List.length_append, List.length_append, ih, ir_cv_cat]
    by_cases hc : v.category = 2
    · rw [if_pos hc, if_pos hc]; rfl
    · rw [if_neg hc, if_neg hc]; rfl
theorem ir_fl1_get (ad : Nat → Nat) : ∀ (vs : List Value) (i k : Nat) (v : Value), (ir_fl1 vs)[k]? = some v → v ≠ .null → (i + k, ir_cv ad v) ∈ lv_args i (vs.map (ir_cv ad)) := by
  intro vs
  induction vs with
  | nil => intro i k v h; cases h
  | cons w vs ih =>
    intro i k v h hn
    have e2 : ir_fl1 (w :: vs) = (if w.category = 2 then [w, .null] else [w]) ++ ir_fl1 vs := by simp [ir_fl1]
    rw [e2] at h
    show (i + k, ir_cv ad v) ∈ (i, ir_cv ad w) :: lv_args (if (ir_cv ad w).category = 2 then i + 2 else i + 1) (vs.map (ir_cv ad))
    rw [ir_cv_cat]
    by_cases hc : w.category = 2
    · rw [if_pos hc] at h ⊢
      match k, h with
      | 0, h => cases h; exact List.mem_cons_self
      | 1, h => cases h; exact absurd rfl hn
      | k + 2, h =>
        have := ih (i + 2) k v h hn
        rw [show i + (k + 2) = i + 2 + k by omega]
        exact List.mem_cons_of_mem _ this
    · rw [if_neg hc] at h ⊢
      match k, h with
      | 0, h => cases h; exact List.mem_cons_self
      | k + 1, h =>
        have := ih (i + 1) k v h hn
        rw [show i + (k + 1) = i + 1 + k by omega]
        exact List.mem_cons_of_mem _ this
theorem ir_entry {ad : Nat → Nat} {mi : Nat} {vs : List Value} (h : (ir_fl1 vs).length ≤ ir_nL mi) : (ir_init mi vs).length = ir_nL mi ∧ ir_LR ad ((lg_sl (vs.map (ir_cv ad)) ++ List.replicate (ir_nL mi - (lg_sl (vs.map (ir_cv ad))).length) Slot.unset).toArray) (ir_init mi vs) := by
  have hl : (ir_init mi vs).length = ir_nL mi := by
    unfold ir_init
    rw [List.length_append, List.length_replicate]
    omega
  have h0 := lv_entry (vs.map (ir_cv ad)) (n := ir_nL mi) (by rw [ir_fl1_len]; exact h)
  refine ⟨hl, by rw [hl]; exact h0.1, h0.2.1, fun q hq => ?_⟩
  obtain ⟨v, h1, h2, h3⟩ := ir_pairs_of hq
  have h4 : (ir_fl1 vs)[q.1]? = some v := by
    unfold ir_init at h1
    rcases Nat.lt_or_ge q.1 (ir_fl1 vs).length with hh | hh
    · rw [List.getElem?_append_left hh] at h1
      exact h1
    · rw [List.getElem?_append_right hh] at h1
      exact absurd (List.eq_of_mem_replicate (List.mem_of_getElem? h1)) h2
  have h5 := ir_fl1_get ad vs 0 q.1 v h4 h2
  rw [Nat.zero_add, ← h3] at h5
  exact h0.2.2 q h5
