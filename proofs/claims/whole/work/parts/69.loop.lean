/-! the law's loop -/
def lw_cs (pc : Nat) : Prop := ∀ {p : Program} {l : Launch} {e : Env} {s : State} {m : MethodId} {below : List Frame} {meth : Method} {c : Code} {Q : State → Prop} {dC : Nat → ClassId} {dI : Nat → Nat → Nat} {ad : Nat → Nat} {cI cL : ClassId} {b L o : Nat} {xs : Nat → Int32} {H : Heap} {locs : List Loc} {cells slots : Nat} {ls : Array Slot} {σ : ir_S} {g : Nat → Int64} {i : Nat}, l.stackTraces = false → lw_E p s m meth c b L xs dC dI ad cI cL o → lw_I s dC dI ad cI cL o σ g H locs → lw_L b o ad i ls → i + 6 ≤ L → RR σ → cells + 100 ≤ 601024 ∧ slots + 1000 ≤ 7293034 →
  (∀ (σ' : ir_S) (g' : Nat → Int64) (H' : Heap) (locs' : List Loc) (ls' : Array Slot), RR σ' → lw_I s dC dI ad cI cL o σ' g' H' locs' → lw_L b o ad i ls' → W p l e room_1 s m #[Value.ref b] below meth c H' locs' (cells + 100) (slots + 1000) Q (F0 m 1231 ls' [])) → W p l e room_1 s m #[Value.ref b] below meth c H locs cells slots Q (F0 m pc ls [])
theorem law_gt {i L : Nat} (hi : i ≤ 4000) (hL : L ≤ 3072) : (nI L - 6 < nI i) ↔ L < i + 6 := by
  rcases Nat.lt_or_ge L 6 with h | h
  · have key : ∀ k : Int32, k.toInt < 0 → k < nI i := fun k hk => by
      rw [Int32.lt_iff_toInt_lt, nI_toInt (by omega)]
      omega
    have : (nI L - 6).toInt < 0 := by
      rcases (show L = 0 ∨ L = 1 ∨ L = 2 ∨ L = 3 ∨ L = 4 ∨ L = 5 by omega) with rfl | rfl | rfl | rfl | rfl | rfl <;> decide
    exact ⟨fun _ => by omega, fun _ => key _ this⟩
  · obtain ⟨k, rfl⟩ : ∃ k, L = k + 6 := ⟨L - 6, by omega⟩
    have e : nI (k + 6) - 6 = nI k := by
      rw [← nI_add]
      exact Int32.add_sub_cancel _ _
    rw [e, nI_ltI (by omega) (by omega)]
    omega
set_option maxHeartbeats 400000 in
theorem law_loop (hA : lw_cs 745) (hR : lw_cs 1175) {p : Program} {l : Launch} {e : Env} {s : State} {m : MethodId} {below : List Frame} {meth : Method} {c : Code} {dC : Nat → ClassId} {dI : Nat → Nat → Nat} {ad : Nat → Nat} {cI cL : ClassId} {b L o : Nat} {xs : Nat → Int32} (hst : l.stackTraces = false) (E : lw_E p s m meth c b L xs dC dI ad cI cL o) :
    ∀ (n k : Nat) (σ : ir_S) (g : Nat → Int64) (H : Heap) (locs : List Loc) (ls : Array Slot), 6 * k ≤ L → L < 6 * k + 6 * n → RR σ → lw_I s dC dI ad cI cL o σ g H locs → lw_L b o ad (6 * k) ls → W p l e room_1 s m #[Value.ref b] below meth c H locs (100 * k + 100) (1000 * k + 11000) (lw_Z below #[Value.ref b] s) (F0 m 23 ls []) := by
  obtain ⟨⟨hx, hb, hr, hml, hown, hts, hX, hbl, hlocks, hgv⟩, hK0, hN, hinj, had, ho, hno, hL3⟩ := id E
  intro n
  induction n with
  | zero =>
    intro k σ g H locs ls h1 h2
    exact absurd h2 (by omega)
  | succ n ih =>
    intro k σ g H locs ls h1 h2 h I hl
    have hS := I.2.2
    refine lv_iload hx hb dL_law_23 (lv_at hl 4 rfl) ?_
    refine lv_aload_n hx hb dL_law_25 rfl (lv_at hl 0 rfl) ?_
    refine va_slen hx hb hX hbl (Nat.not_le.mpr hbl) hS dL_law_26 ?_
    refine lv_bipush (v := 6) hx hb dL_law_27 (by decide) ?_
    refine lv_isub hx hb dL_law_29 ?_
    refine lv_icmp_gt (tgt := 1237) hx hb dL_law_30 (by decide) (fun c9 => ?_) (fun c9 => ?_)
    · refine lv_iconst (v := 1) hx hb dL_law_1237 (by decide) ?_
      refine va_forget (fun q hq => hS.2.2 q hq) ?_
      refine W.widen (k := 601024) (n := 7293034) (by omega) (by omega) ?_
      exact lw_ret hx hb hr hlocks dL_law_1238
    · have hi : 6 * k + 6 ≤ L := Nat.not_lt.mp fun q => c9 ((law_gt (by omega) hL3).mpr q)
      refine lv_aload_n hx hb dL_law_33 rfl (lv_at hl 0 rfl) ?_
      refine lv_iload hx hb dL_law_34 (lv_at hl 4 rfl) ?_
      refine va_sld hx hb hX hbl (Nat.not_le.mpr hbl) hS (vp_in_nI (show 6 * k < L by omega) (by omega)) dL_law_36 ?_
      refine lv_bipush (v := 31) hx hb dL_law_37 (by decide) ?_
      refine lv_iand hx hb dL_law_39 ?_
      refine lv_topi (fun x ex => ?_)
      clear ex
      have K9 : ∀ (σ' : ir_S) (g' : Nat → Int64) (H' : Heap) (locs' : List Loc) (ls' : Array Slot), RR σ' → lw_I s dC dI ad cI cL o σ' g' H' locs' → lw_L b o ad (6 * k) ls' → W p l e room_1 s m #[Value.ref b] below meth c H' locs' (100 * k + 100 + 100) (1000 * k + 11000 + 1000) (lw_Z below #[Value.ref b] s) (F0 m 1231 ls' []) := by
        intro σ' g' H' locs' ls' h' I' hl'
        have e6 : nI (6 * k) + Int32.ofInt 6 = nI (6 * (k + 1)) := by
          rw [show 6 * (k + 1) = 6 * k + 6 by omega, ← nI_add, show Int32.ofInt 6 = nI 6 by decide]
        refine lv_iinc (v := nI (6 * (k + 1))) (lv' := [(4, .int (nI (6 * (k + 1)))), (0, .ref b), (1, .ref (ad 0)), (2, .ref (ad 33)), (3, .ref o)]) hx hb dL_law_1231 hl' (k := 4) rfl e6 (by decide) rfl (fun ls9 hl9 => ?_)
        refine lv_goto (tgt := 23) hx hb dL_law_1234 (by decide) ?_
        rw [show 100 * k + 100 + 100 = 100 * (k + 1) + 100 by omega, show 1000 * k + 11000 + 1000 = 1000 * (k + 1) + 11000 by omega]
        exact ih (k + 1) σ' g' H' locs' ls9 (by omega) (by omega) h' I' (lv_sub hl9 [1, 2, 3, 4, 0] rfl)
      have K8 : ∀ (σ' : ir_S) (H' : Heap) (locs' : List Loc), RR σ' → lw_I s dC dI ad cI cL o σ' g H' locs' → W p l e room_1 s m #[Value.ref b] below meth c H' locs' (100 * k + 100) (1000 * k + 11000) (lw_Z below #[Value.ref b] s) (F0 m 1231 ls []) := fun σ' H' locs' h' I' => W.widen (by omega) (by omega) (K9 σ' g H' locs' ls h' I' hl)
      have hcs : 100 * k + 100 ≤ 601024 ∧ 1000 * k + 11000 ≤ 7293034 := ⟨by omega, by omega⟩
      by_cases hout : x.toInt < 0 ∨ 28 < x.toInt
      · refine lv_tableOut (tgt := 1231) hx hb dL_law_40 hout (by decide) ?_
        exact K8 σ H locs h I
      · have g1 : ¬ x.toInt < 0 := fun q => hout (Or.inl q)
        have g2 : ¬ 28 < x.toInt := fun q => hout (Or.inr q)
        obtain ⟨z, hz⟩ : ∃ z : Nat, x.toInt = (z : Int) := ⟨x.toInt.toNat, by omega⟩
        have hz9 : z < 29 := by omega
        clear hout
        match z, hz, hz9 with
        | 0, hz, _ =>
          refine lv_tableIn (off := 132) (tgt := 172) hx hb dL_law_40 g1 g2 (by rw [hz]; rfl) (by decide) ?_
          exact lw_c_node E I hl hi h hcs K8
        | 1, hz, _ =>
          refine lv_tableIn (off := 157) (tgt := 197) hx hb dL_law_40 g1 g2 (by rw [hz]; rfl) (by decide) ?_
          exact lw_c_line E I hl hi h hcs K8
        | 2, hz, _ =>
          refine lv_tableIn (off := 194) (tgt := 234) hx hb dL_law_40 g1 g2 (by rw [hz]; rfl) (by decide) ?_
          exact lw_c_route E I hl hi h hcs K8
        | 3, hz, _ =>
          refine lv_tableIn (off := 243) (tgt := 283) hx hb dL_law_40 g1 g2 (by rw [hz]; rfl) (by decide) ?_
          exact lw_c_deny E I hl hi h hcs K8
        | 4, hz, _ =>
          refine lv_tableIn (off := 320) (tgt := 360) hx hb dL_law_40 g1 g2 (by rw [hz]; rfl) (by decide) ?_
          exact lw_c_on E I hl hi h hcs K8
        | 5, hz, _ =>
          refine lv_tableIn (off := 385) (tgt := 425) hx hb dL_law_40 g1 g2 (by rw [hz]; rfl) (by decide) ?_
          exact lw_c_name E I hl hi h hcs K8
        | 6, hz, _ =>
          refine lv_tableIn (off := 422) (tgt := 462) hx hb dL_law_40 g1 g2 (by rw [hz]; rfl) (by decide) ?_
          exact lw_c_namer E I hl hi h hcs K8
        | 7, hz, _ =>
          refine lv_tableIn (off := 447) (tgt := 487) hx hb dL_law_40 g1 g2 (by rw [hz]; rfl) (by decide) ?_
          exact lw_c_clear E I hl hi h hcs K8
        | 8, hz, _ =>
          refine lv_tableIn (off := 460) (tgt := 500) hx hb dL_law_40 g1 g2 (by rw [hz]; rfl) (by decide) ?_
          exact lw_c_count E I hl hi h hcs K8
        | 9, hz, _ =>
          refine lv_tableIn (off := 485) (tgt := 525) hx hb dL_law_40 g1 g2 (by rw [hz]; rfl) (by decide) ?_
          exact lw_c_next E I hl hi h hcs K8
        | 10, hz, _ =>
          refine lv_tableIn (off := 534) (tgt := 574) hx hb dL_law_40 g1 g2 (by rw [hz]; rfl) (by decide) ?_
          exact lw_c_fault E I hl hi h hcs K8
        | 11, hz, _ =>
          refine lv_tableIn (off := 595) (tgt := 635) hx hb dL_law_40 g1 g2 (by rw [hz]; rfl) (by decide) ?_
          exact lw_c_cause E I hl hi h hcs K8
        | 12, hz, _ =>
          refine lv_tableIn (off := 632) (tgt := 672) hx hb dL_law_40 g1 g2 (by rw [hz]; rfl) (by decide) ?_
          exact lw_c_look E I hl hi h hcs K8
        | 13, hz, _ =>
          refine lv_tableIn (off := 705) (tgt := 745) hx hb dL_law_40 g1 g2 (by rw [hz]; rfl) (by decide) ?_
          exact hA hst E I hl hi h ⟨by omega, by omega⟩ K9
        | 14, hz, _ =>
          refine lv_tableIn (off := 773) (tgt := 813) hx hb dL_law_40 g1 g2 (by rw [hz]; rfl) (by decide) ?_
          exact lw_c_goes E I hl hi h hcs K8
        | 15, hz, _ =>
          refine lv_tableIn (off := 834) (tgt := 874) hx hb dL_law_40 g1 g2 (by rw [hz]; rfl) (by decide) ?_
          exact lw_c_unlike E I hl hi h hcs K8
        | 16, hz, _ =>
          refine lv_tableIn (off := 871) (tgt := 911) hx hb dL_law_40 g1 g2 (by rw [hz]; rfl) (by decide) ?_
          exact lw_c_fair E I hl hi h hcs K8
        | 17, hz, _ =>
          refine lv_tableIn (off := 884) (tgt := 924) hx hb dL_law_40 g1 g2 (by rw [hz]; rfl) (by decide) ?_
          exact lw_c_groups E I hl hi h hcs K8
        | 18, hz, _ =>
          refine lv_tableIn (off := 909) (tgt := 949) hx hb dL_law_40 g1 g2 (by rw [hz]; rfl) (by decide) ?_
          exact lw_c_worst E I hl hi h hcs K8
        | 19, hz, _ =>
          refine lv_tableIn (off := 934) (tgt := 974) hx hb dL_law_40 g1 g2 (by rw [hz]; rfl) (by decide) ?_
          exact lw_c_tells E I hl hi h hcs K8
        | 20, hz, _ =>
          refine lv_tableIn (off := 959) (tgt := 999) hx hb dL_law_40 g1 g2 (by rw [hz]; rfl) (by decide) ?_
          exact lw_c_first E I hl hi h hcs K8
        | 21, hz, _ =>
          refine lv_tableIn (off := 984) (tgt := 1024) hx hb dL_law_40 g1 g2 (by rw [hz]; rfl) (by decide) ?_
          exact lw_c_begin E I hl hi h hcs K8
        | 22, hz, _ =>
          refine lv_tableIn (off := 1009) (tgt := 1049) hx hb dL_law_40 g1 g2 (by rw [hz]; rfl) (by decide) ?_
          exact lw_c_use E I hl hi h hcs K8
        | 23, hz, _ =>
          refine lv_tableIn (off := 1034) (tgt := 1074) hx hb dL_law_40 g1 g2 (by rw [hz]; rfl) (by decide) ?_
          exact lw_c_left E I hl hi h hcs K8
        | 24, hz, _ =>
          refine lv_tableIn (off := 1047) (tgt := 1087) hx hb dL_law_40 g1 g2 (by rw [hz]; rfl) (by decide) ?_
          exact lw_c_mend E I hl hi h hcs K8
        | 25, hz, _ =>
          refine lv_tableIn (off := 1072) (tgt := 1112) hx hb dL_law_40 g1 g2 (by rw [hz]; rfl) (by decide) ?_
          exact lw_c_well E I hl hi h hcs K8
        | 26, hz, _ =>
          refine lv_tableIn (off := 1085) (tgt := 1125) hx hb dL_law_40 g1 g2 (by rw [hz]; rfl) (by decide) ?_
          exact lw_c_claim E I hl hi h hcs K8
        | 27, hz, _ =>
          refine lv_tableIn (off := 1110) (tgt := 1150) hx hb dL_law_40 g1 g2 (by rw [hz]; rfl) (by decide) ?_
          exact lw_c_mark E I hl hi h hcs K8
        | 28, hz, _ =>
          refine lv_tableIn (off := 1135) (tgt := 1175) hx hb dL_law_40 g1 g2 (by rw [hz]; rfl) (by decide) ?_
          exact hR hst E I hl hi h ⟨by omega, by omega⟩ K9
        | n9 + 29, _, h9 => exact absurd h9 (by omega)
