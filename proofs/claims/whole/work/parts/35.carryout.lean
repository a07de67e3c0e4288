/-! the class's orders: what one is refused for, how one is carried out; the count's faces -/
def un (x : Int32) : Nat := x.toBitVec.toNat
theorem un_e (x : Int32) : x = nI (un x) := by
  obtain ⟨n, hn, e⟩ := nI_of32 x
  have e2 : un x = n := by rw [un, e, pk_tn hn]
  rw [e2, e]
theorem un_lt (x : Int32) : un x < 2 ^ 32 := x.toBitVec.isLt
theorem or_e : ∀ w, w < 9 → [0, 1, 2, 3, 4, 5, 6, 7, 8].getD w (0 : Int32) = nI w := by decide +kernel
theorem hzOr {w : Nat} (hw : w < 9) {y : zY} (A : Nat → Prop) (U : State) (H : Heap) (h : zV y A U H) : va_OF "java/lang/Enum" "ordinal" "I" (.int (nI w)) (y.2 w) A U H := by
  have h1 := (h.2.1.1 w (by exact hw)).2.2 ("java/lang/Enum", "ordinal", "I", [0, 1, 2, 3, 4, 5, 6, 7, 8]) List.mem_cons_self
  rw [← or_e w hw]
  exact h1
theorem hzWo {w : Nat} (hw : w < 9) {y : zY} (A : Nat → Prop) (U : State) (H : Heap) (h : zV y A U H) : va_O "SnowSites$Word" (y.2 w) A U H := (h.2.1.1 w (by exact hw)).2.1
theorem hzS {y : zY} (A : Nat → Prop) (U : State) (H : Heap) (h : zV y A U H) : va_Z "SnowSites$1" "$SwitchMap$SnowSites$Word" "[I" (.ref (y.2 11)) A U H := h.2.2.2.2.2.1
theorem hzSt {y : zY} (A : Nat → Prop) (U : State) (H : Heap) (h : zV y A U H) : va_T .int (y.2 11) 9 (fun j => .int (zSm.getD j 0)) A U H := h.2.2.2.2.2.2.1
def orC (g o : Nat → Nat → Int32) (w : Nat) : Int32 := if w = 0 then srC g (o 1 0) else if w = 1 then prC g (un (o 1 0)) (o 1 1) else if w = 2 then stC g (un (o 1 0)) (un (o 1 1)) else if w = 3 then toC g (o 1 0) else if w = 4 then crC g (un (o 1 0)) (un (o 1 1)) (un (o 1 2)) (o 1 3) else if w = 5 then siC (o 1 0) else if w = 6 then hoC (o 1 0) else if w = 7 then hoC (o 1 0) else nI 0
def coF (g o : Nat → Nat → Int32) (w : Nat) : Nat → Nat → Int32 := if w = 0 then tsG g (o 1 0) else if w = 1 then mkG g (un (o 1 0)) (o 1 1) else if w = 2 then pbG g (un (o 1 0)) (un (o 1 1)) else if w = 3 then taG g (o 1 0) else if w = 4 then coG g (un (o 1 0)) (un (o 1 1)) (un (o 1 2)) (o 1 3) else if w = 5 then va_up g 3 (upd (g 3) (un (o 1 0)) (nI 1)) else if w = 6 then phG g (nI 0) (un (o 1 0)) else if w = 7 then phG g (nI 1) (un (o 1 0)) else obG g
theorem wi_of {x : Int32} {a b : Nat} (ha : a < 2 ^ 31) (hb : b < 2 ^ 31) (h : ¬ wi x (nI a) (nI b) = 0) : a ≤ un x ∧ un x ≤ b := wi_lt (un_lt x) ha hb (by rw [← un_e x]; exact h)
theorem prC_ok {g : Nat → Nat → Int32} {k : Nat} {b : Int32} (hk : k < 2 ^ 32) (h : prC g k b = 0) : k < 3 ∧ ¬ wi b (nI 1) (nI 50) = 0 ∧ b * nI 100 ≤ g 0 0 ∧ g 1 k + b ≤ nI 50 := by
  unfold prC at h
  by_cases h1 : wi (nI k) (nI 0) (nI 2) = 0
  · rw [if_pos h1] at h; exact absurd h (by decide +kernel)
  rw [if_neg h1] at h
  by_cases h2 : wi b (nI 1) (nI 50) = 0
  · rw [if_pos h2] at h; exact absurd h (by decide +kernel)
  rw [if_neg h2] at h
  by_cases h3 : b * nI 100 ≤ g 0 0
  · rw [if_pos h3] at h
    by_cases h4 : g 1 k + b ≤ nI 50
    · have := wi_lt hk (by omega) (by omega) h1
      exact ⟨by omega, h2, h3, h4⟩
    · rw [if_neg h4] at h; exact absurd h (by decide +kernel)
  · rw [if_neg h3] at h; exact absurd h (by decide +kernel)
theorem stC_ok {g : Nat → Nat → Int32} (hg : okH g) {s k : Nat} (hs : s < 2 ^ 32) (hk : k < 2 ^ 32) (h : stC g s k = 0) : s < 8 ∧ k < 3 ∧ ¬ g 1 k = 0 ∧ zh g s < 6 := by
  unfold stC at h
  by_cases h1 : isS (nI s) = 0
  · rw [if_pos h1] at h; exact absurd h (by decide +kernel)
  rw [if_neg h1] at h
  by_cases h2 : wi (nI k) (nI 0) (nI 2) = 0
  · rw [if_pos h2] at h; exact absurd h (by decide +kernel)
  rw [if_neg h2] at h
  by_cases h3 : g 1 k = 0
  · rw [if_pos h3] at h; exact absurd h (by decide +kernel)
  rw [if_neg h3] at h
  by_cases h4 : g 2 s < nI 6
  · have h5 := wi_lt hs (by omega) (by omega) h1
    have h6 := wi_lt hk (by omega) (by omega) h2
    rw [(hg s (by omega)).1, nI_ltI (by have := (hg s (by omega)).2; omega) (by omega)] at h4
    exact ⟨by omega, by omega, h3, h4⟩
  · rw [if_neg h4] at h; exact absurd h (by decide +kernel)
theorem toC_ok {g : Nat → Nat → Int32} (hgt : okT g) {v : Int32} (h : toC g v = 0) : ¬ wi v (nI 1) (nI 20) = 0 ∧ zt g < 5 := by
  unfold toC at h
  by_cases h1 : wi v (nI 1) (nI 20) = 0
  · rw [if_pos h1] at h; exact absurd h (by decide +kernel)
  rw [if_neg h1] at h
  by_cases h2 : g 0 6 < nI 5
  · rw [hgt.1, nI_ltI (by have := hgt.2; omega) (by omega)] at h2
    exact ⟨h1, h2⟩
  · rw [if_neg h2] at h; exact absurd h (by decide +kernel)
theorem crC_ok {g : Nat → Nat → Int32} (hgt : okT g) {x s v : Nat} {u : Int32} (hx : x < 2 ^ 32) (hs : s < 2 ^ 32) (hv : v < 2 ^ 32) (h : crC g x s v u = 0) : x < zt g ∧ s < 8 ∧ v < 6 ∧ ¬ wi u (nI 1) (nI 100) = 0 ∧ raG g x s v u = 0 := by
  unfold crC at h
  by_cases h1 : caC g (nI x) (nI s) (nI v) u = 0
  · rw [if_pos h1] at h
    obtain ⟨a, b, c, d⟩ := caC_ok hgt hx hs hv h1
    by_cases h2 : raG g x s v u = 0
    · exact ⟨a, b, c, d, h2⟩
    · rw [if_neg h2] at h; exact absurd h (by decide +kernel)
  · rw [if_neg h1] at h; exact absurd h h1
theorem siC_ok {x : Int32} (h : siC x = 0) : un x < 8 := by
  unfold siC at h
  by_cases h1 : isS x = 0
  · rw [if_pos h1] at h; exact absurd h (by decide +kernel)
  · have := wi_of (a := 0) (b := 7) (by omega) (by omega) h1
    omega
theorem hoC_ok {x : Int32} (h : hoC x = 0) : 1 ≤ un x ∧ un x ≤ 24 := by
  unfold hoC at h
  by_cases h1 : wi x (nI 1) (nI 24) = 0
  · rw [if_pos h1] at h; exact absurd h (by decide +kernel)
  · exact wi_of (by omega) (by omega) h1
theorem tk_le (g : Nat → Nat → Int32) : ∀ k r c, r + k = 8 → (c 0 0 = nI r) → ∃ j, j ≤ 8 ∧ tkR g k r c 0 0 = nI j
  | 0, r, c, h, hc => ⟨r, by omega, hc⟩
  | k + 1, r, c, h, hc => by
    unfold tkR
    split
    · refine tk_le g k (r + 1) _ (by omega) ?_
      unfold dwC
      split <;> rfl
    · exact ⟨r + 1, by omega, rfl⟩
theorem tkC_n (g c : Nat → Nat → Int32) : ∃ j, j ≤ 8 ∧ tkC g c 0 0 = nI j := by
  unfold tkC
  split
  · exact ⟨0, by omega, rfl⟩
  · exact tk_le g 8 0 (tk0 g c) rfl rfl
def vsC (g c : Nat → Nat → Int32) (r s : Nat) : Int32 := if tkC g c 0 0 ≤ nI r then (-1) else tkC g c 2 (r * 8 + s)
set_option maxHeartbeats 4000000 in
set_option maxRecDepth 100000 in
/-- ordinal -/
theorem c_ordinal {l : Launch} {y : zY} {D : va_G} (w : Nat) (hw : w < 9) : zM l y D yJx29ce0_ordinal_8abf5 wsJx29ce0_ordinal_8abf5 0 0 [.ref (y.2 w)] [] [] (some (.int (nI w))) := by
  refine z_start (own := RJx29ce0) (cc := cJx29ce0_ordinal_8abf5) (maxL := 1) (ret := (some .int)) rfl (by decide +kernel) rfl (Nat.le_of_ble_eq_true rfl) rfl ?_
  intro E hEl hEy hED h hf
  subst hEl hEy hED
  have hkR : 0 ≤ E.2.2.2.2.2.1.cells ∧ 0 ≤ E.2.2.2.2.2.1.slots := ⟨Nat.zero_le _, Nat.zero_le _⟩
  refine z_cast (lv := [(0, .ref ((zy E).2 w))]) (ws := []) (st := []) ?_ rfl rfl rfl
  refine z_aload_n h 0 rfl dJx29ce0_ordinal_8abf5_0 ?_
  refine z_getOF h (hzOr hw) (List.mem_of_getElem? (i := 1) (by decide +kernel)) dJx29ce0_ordinal_8abf5_1 ?_
  exact z_iret h hf rfl rfl rfl dJx29ce0_ordinal_8abf5_4

theorem iX9_rounds_X2 : ∀ w ∈ u_ws RX2 TX2 5, w ∈ wsX9_rounds := by decide +kernel
theorem iX9_rounds_X5 : ∀ w ∈ u_ws RX5 TX5 10, w ∈ wsX9_rounds := by decide +kernel
theorem iX9_rounds_X9 : ∀ w ∈ u_ws RX9 TX9 5, w ∈ wsX9_rounds := by decide +kernel
set_option maxHeartbeats 4000000 in
set_option maxRecDepth 100000 in
/-- X9_rounds -/
theorem c_X9_rounds {l : Launch} {y : zY} {D : va_G} (q : Nat → Nat) (a : Nat → Nat → Nat) (g t c o n : Nat → Nat → Int32) (S : Nat → Nat → Nat → Int32) (hg : okH g) (hgb : okB g) : zM l y D yX9_rounds wsX9_rounds 5 117 [.ref (q 0)] (zCW y q a g t c o n S) (zCW y q a g t (tkC g c) o n S) (some (.int (tkC g c 0 0))) := by
  refine z_start (own := RX9) (cc := cX9_rounds) (maxL := 1) (ret := (some .int)) rfl (by decide +kernel) rfl (Nat.le_of_ble_eq_true rfl) (zCW_fst _ _ _ _ _ _ _ _ _ _ _ _ _ _ _) ?_
  intro E hEl hEy hED h hf
  subst hEl hEy hED
  have hkR : 0 ≤ E.2.2.2.2.2.1.cells ∧ 0 ≤ E.2.2.2.2.2.1.slots := ⟨Nat.zero_le _, Nat.zero_le _⟩
  refine z_cast (lv := [(0, .ref (q 0))]) (ws := (zCW (zy E) q a g t c o n S)) (st := []) ?_ rfl rfl rfl
  refine z_aload_n h 0 rfl dX9_rounds_0 ?_
  refine z_get h 0 7 3 (v := .ref (q 25)) rfl rfl iX9_rounds_X9 (by decide) (List.mem_of_getElem? (i := 1) (by decide +kernel)) rfl rfl dX9_rounds_1 ?_
  refine z_aload_n h 0 rfl dX9_rounds_4 ?_
  refine z_get h 0 7 0 (v := .ref (q 1)) rfl rfl iX9_rounds_X9 (by decide) (List.mem_of_getElem? (i := 2) (by decide +kernel)) rfl rfl dX9_rounds_5 ?_
  refine z_get h 1 4 7 (v := .ref (q 3)) rfl rfl iX9_rounds_X5 (by decide) (List.mem_of_getElem? (i := 3) (by decide +kernel)) rfl rfl dX9_rounds_8 ?_
  refine z_aload_n h 0 rfl dX9_rounds_11 ?_
  refine z_get h 0 7 0 (v := .ref (q 1)) rfl rfl iX9_rounds_X9 (by decide) (List.mem_of_getElem? (i := 2) (by decide +kernel)) rfl rfl dX9_rounds_12 ?_
  refine z_get h 1 4 9 (v := .ref (q 15)) rfl rfl iX9_rounds_X5 (by decide) (List.mem_of_getElem? (i := 4) (by decide +kernel)) rfl rfl dX9_rounds_15 ?_
  refine z_wV h (As := [.ref (q 3), .ref (q 15)]) (st := []) (ws2 := zCW (zy E) q a g t (tkC g c) o n S) (r := none) 2 (l_cnt (c_X2_take (fun i => q (1 + i)) (fun i => q (25 + i)) g c hg hgb)) gX9_rounds_X2_take (q0 := 25) (ci := 1) (by decide +kernel) rfl rfl rfl ⟨by decide, by decide⟩ (Nat.le_of_ble_eq_true rfl) rfl rfl dX9_rounds_18 ?_ hkR
  refine z_aload_n h 0 rfl dX9_rounds_21 ?_
  refine z_get h 0 7 3 (v := .ref (q 25)) rfl rfl iX9_rounds_X9 (by decide) (List.mem_of_getElem? (i := 1) (by decide +kernel)) rfl rfl dX9_rounds_22 ?_
  refine z_get h 25 1 0 (v := .int ((tkC g c 0) 0)) rfl rfl iX9_rounds_X2 (by decide) (List.mem_of_getElem? (i := 5) (by decide +kernel)) rfl rfl dX9_rounds_25 ?_
  exact z_iret h hf rfl rfl rfl dX9_rounds_28

theorem iX9_winner_X2 : ∀ w ∈ u_ws RX2 TX2 5, w ∈ wsX9_winner := by decide +kernel
theorem iX9_winner_X5 : ∀ w ∈ u_ws RX5 TX5 10, w ∈ wsX9_winner := by decide +kernel
theorem iX9_winner_X9 : ∀ w ∈ u_ws RX9 TX9 5, w ∈ wsX9_winner := by decide +kernel
set_option maxHeartbeats 4000000 in
set_option maxRecDepth 100000 in
/-- X9_winner -/
theorem c_X9_winner {l : Launch} {y : zY} {D : va_G} (q : Nat → Nat) (a : Nat → Nat → Nat) (g t c o n : Nat → Nat → Int32) (S : Nat → Nat → Nat → Int32) (hg : okH g) (hgb : okB g) : zM l y D yX9_winner wsX9_winner 5 117 [.ref (q 0)] (zCW y q a g t c o n S) (zCW y q a g t (tkC g c) o n S) (some (.int (tkC g c 0 1))) := by
  refine z_start (own := RX9) (cc := cX9_winner) (maxL := 1) (ret := (some .int)) rfl (by decide +kernel) rfl (Nat.le_of_ble_eq_true rfl) (zCW_fst _ _ _ _ _ _ _ _ _ _ _ _ _ _ _) ?_
  intro E hEl hEy hED h hf
  subst hEl hEy hED
  have hkR : 0 ≤ E.2.2.2.2.2.1.cells ∧ 0 ≤ E.2.2.2.2.2.1.slots := ⟨Nat.zero_le _, Nat.zero_le _⟩
  refine z_cast (lv := [(0, .ref (q 0))]) (ws := (zCW (zy E) q a g t c o n S)) (st := []) ?_ rfl rfl rfl
  refine z_aload_n h 0 rfl dX9_winner_0 ?_
  refine z_get h 0 7 3 (v := .ref (q 25)) rfl rfl iX9_winner_X9 (by decide) (List.mem_of_getElem? (i := 1) (by decide +kernel)) rfl rfl dX9_winner_1 ?_
  refine z_aload_n h 0 rfl dX9_winner_4 ?_
  refine z_get h 0 7 0 (v := .ref (q 1)) rfl rfl iX9_winner_X9 (by decide) (List.mem_of_getElem? (i := 2) (by decide +kernel)) rfl rfl dX9_winner_5 ?_
  refine z_get h 1 4 7 (v := .ref (q 3)) rfl rfl iX9_winner_X5 (by decide) (List.mem_of_getElem? (i := 3) (by decide +kernel)) rfl rfl dX9_winner_8 ?_
  refine z_aload_n h 0 rfl dX9_winner_11 ?_
  refine z_get h 0 7 0 (v := .ref (q 1)) rfl rfl iX9_winner_X9 (by decide) (List.mem_of_getElem? (i := 2) (by decide +kernel)) rfl rfl dX9_winner_12 ?_
  refine z_get h 1 4 9 (v := .ref (q 15)) rfl rfl iX9_winner_X5 (by decide) (List.mem_of_getElem? (i := 4) (by decide +kernel)) rfl rfl dX9_winner_15 ?_
  refine z_wV h (As := [.ref (q 3), .ref (q 15)]) (st := []) (ws2 := zCW (zy E) q a g t (tkC g c) o n S) (r := none) 2 (l_cnt (c_X2_take (fun i => q (1 + i)) (fun i => q (25 + i)) g c hg hgb)) gX9_winner_X2_take (q0 := 25) (ci := 1) (by decide +kernel) rfl rfl rfl ⟨by decide, by decide⟩ (Nat.le_of_ble_eq_true rfl) rfl rfl dX9_winner_18 ?_ hkR
  refine z_aload_n h 0 rfl dX9_winner_21 ?_
  refine z_get h 0 7 3 (v := .ref (q 25)) rfl rfl iX9_winner_X9 (by decide) (List.mem_of_getElem? (i := 1) (by decide +kernel)) rfl rfl dX9_winner_22 ?_
  refine z_get h 25 1 1 (v := .int ((tkC g c 0) 1)) rfl rfl iX9_winner_X2 (by decide) (List.mem_of_getElem? (i := 5) (by decide +kernel)) rfl rfl dX9_winner_25 ?_
  exact z_iret h hf rfl rfl rfl dX9_winner_28

theorem iX9_votes_X5 : ∀ w ∈ u_ws RX5 TX5 10, w ∈ wsX9_votes := by decide +kernel
theorem iX9_votes_X9 : ∀ w ∈ u_ws RX9 TX9 5, w ∈ wsX9_votes := by decide +kernel
set_option maxHeartbeats 4000000 in
set_option maxRecDepth 100000 in
/-- X9_votes -/
theorem c_X9_votes {l : Launch} {y : zY} {D : va_G} (q : Nat → Nat) (a : Nat → Nat → Nat) (g t c o n : Nat → Nat → Int32) (S : Nat → Nat → Nat → Int32) (r s : Nat) (hr : r < 2 ^ 31) (hs : s < 8) (hg : okH g) (hgb : okB g) (h0 : siC (nI s) = nI 0) : zM l y D yX9_votes wsX9_votes 5 117 [.ref (q 0), .int (nI r), .int (nI s)] (zCW y q a g t c o n S) (zCW y q a g t (tkC g c) o n S) (some (.int (vsC g c r s))) := by
  refine z_start (own := RX9) (cc := cX9_votes) (maxL := 3) (ret := (some .int)) rfl (by decide +kernel) rfl (Nat.le_of_ble_eq_true rfl) (zCW_fst _ _ _ _ _ _ _ _ _ _ _ _ _ _ _) ?_
  intro E hEl hEy hED h hf
  subst hEl hEy hED
  have hkR : 0 ≤ E.2.2.2.2.2.1.cells ∧ 0 ≤ E.2.2.2.2.2.1.slots := ⟨Nat.zero_le _, Nat.zero_le _⟩
  refine z_cast (lv := [(0, .ref (q 0)), (1, .int (nI r)), (2, .int (nI s))]) (ws := (zCW (zy E) q a g t c o n S)) (st := []) ?_ rfl rfl rfl
  refine z_iload_n h 1 rfl dX9_votes_0 ?_
  refine z_if_ge h 14 dX9_votes_1 (by decide) (fun c_1 => ?_) (fun c_1 => ?_)
  · refine z_iload_n h 2 rfl dX9_votes_14 ?_
    refine z_callS h (As := [.int (nI s)]) (st := []) (ws2 := zCW (zy E) q a g t c o n S) (B := []) (B' := []) (r := some (.int (siC (nI s)))) 1 (c_X9_siteRefusal (nI s)) gX9_votes_X9_siteRefusal (by decide +kernel) rfl ⟨by decide, by decide⟩ [] rfl (by decide) rfl (Nat.le_of_ble_eq_true rfl) rfl rfl dX9_votes_15 ?_ hkR
    refine z_top (nI 0) h0 ?_
    refine z_callS h (As := [.int (nI 0)]) (st := []) (ws2 := zCW (zy E) q a g t c o n S) (B := []) (B' := []) (r := none) 1 c_X9_throwFor_0 gX9_votes_X9_throwFor (by decide +kernel) rfl ⟨by decide, by decide⟩ [] rfl (by decide) rfl (Nat.le_of_ble_eq_true rfl) rfl rfl dX9_votes_18 ?_ hkR
    refine z_aload_n h 0 rfl dX9_votes_21 ?_
    refine z_get h 0 7 3 (v := .ref (q 25)) rfl rfl iX9_votes_X9 (by decide) (List.mem_of_getElem? (i := 3) (by decide +kernel)) rfl rfl dX9_votes_22 ?_
    refine z_aload_n h 0 rfl dX9_votes_25 ?_
    refine z_get h 0 7 0 (v := .ref (q 1)) rfl rfl iX9_votes_X9 (by decide) (List.mem_of_getElem? (i := 4) (by decide +kernel)) rfl rfl dX9_votes_26 ?_
    refine z_get h 1 4 7 (v := .ref (q 3)) rfl rfl iX9_votes_X5 (by decide) (List.mem_of_getElem? (i := 5) (by decide +kernel)) rfl rfl dX9_votes_29 ?_
    refine z_aload_n h 0 rfl dX9_votes_32 ?_
    refine z_get h 0 7 0 (v := .ref (q 1)) rfl rfl iX9_votes_X9 (by decide) (List.mem_of_getElem? (i := 4) (by decide +kernel)) rfl rfl dX9_votes_33 ?_
    refine z_get h 1 4 9 (v := .ref (q 15)) rfl rfl iX9_votes_X5 (by decide) (List.mem_of_getElem? (i := 6) (by decide +kernel)) rfl rfl dX9_votes_36 ?_
    refine z_wV h (As := [.ref (q 3), .ref (q 15)]) (st := []) (ws2 := zCW (zy E) q a g t (tkC g c) o n S) (r := none) 2 (l_cnt (c_X2_take (fun i => q (1 + i)) (fun i => q (25 + i)) g c hg hgb)) gX9_votes_X2_take (q0 := 25) (ci := 1) (by decide +kernel) rfl rfl rfl ⟨by decide, by decide⟩ (Nat.le_of_ble_eq_true rfl) rfl rfl dX9_votes_39 ?_ hkR
    refine z_aload_n h 0 rfl dX9_votes_42 ?_
    refine z_get h 0 7 3 (v := .ref (q 25)) rfl rfl iX9_votes_X9 (by decide) (List.mem_of_getElem? (i := 3) (by decide +kernel)) rfl rfl dX9_votes_43 ?_
    refine z_iload_n h 1 rfl dX9_votes_46 ?_
    refine z_iload_n h 2 rfl dX9_votes_47 ?_
    by_cases hv9 : (tkC g c) 0 0 ≤ nI r
    · skip
      refine z_wV h (As := [.int (nI r), .int (nI s)]) (st := []) (ws2 := zCW (zy E) q a g t (tkC g c) o n S) (r := some (.int (-1))) 2 (l_cno (c_X2_votesIn_0 (fun i => q (25 + i)) (tkC g c) r s hr hv9)) gX9_votes_X2_votesIn (q0 := 25) (ci := 1) (by decide +kernel) rfl rfl rfl ⟨by decide, by decide⟩ (Nat.le_of_ble_eq_true rfl) rfl rfl dX9_votes_48 ?_ hkR
      exact z_iret h hf rfl (by rw [vsC, if_pos hv9]) rfl dX9_votes_51
    · have hr8 : r < 8 := (by obtain ⟨j, hj, e⟩ := tkC_n g c; rw [e, nI_leI (by omega) (by omega)] at hv9; omega)
      refine z_wV h (As := [.int (nI r), .int (nI s)]) (st := []) (ws2 := zCW (zy E) q a g t (tkC g c) o n S) (r := some (.int ((tkC g c) 2 (r * 8 + s)))) 2 (l_cno (c_X2_votesIn_1 (fun i => q (25 + i)) (tkC g c) r s hr8 (by omega) hv9)) gX9_votes_X2_votesIn (q0 := 25) (ci := 1) (by decide +kernel) rfl rfl rfl ⟨by decide, by decide⟩ (Nat.le_of_ble_eq_true rfl) rfl rfl dX9_votes_48 ?_ hkR
      exact z_iret h hf rfl (by rw [vsC, if_neg hv9]) rfl dX9_votes_51
  · exact absurd (nI_pos' hr) c_1

set_option maxHeartbeats 4000000 in
set_option maxRecDepth 100000 in
/-- X9_votes throws -/
theorem x_X9_votes_1 {l : Launch} {y : zY} {D : va_G} (hl : l.stackTraces = false) (q : Nat → Nat) (a : Nat → Nat → Nat) (g t c o n : Nat → Nat → Int32) (S : Nat → Nat → Nat → Int32) (x s : Int32) (h0 : x < 0) : zX l y D yX9_votes wsX9_votes 7 117 1 6 [.ref (q 0), .int x, .int s] (zCW y q a g t c o n S) "java/lang/IllegalArgumentException" := by
  refine x_start (own := RX9) (cc := cX9_votes) (maxL := 3) (ret := (some .int)) rfl (by decide +kernel) rfl (Nat.le_of_ble_eq_true rfl) ?_
  intro E hEl hEy hED h hf
  subst hEl hEy hED
  have hkR : 0 ≤ E.2.2.2.2.2.1.cells ∧ 0 ≤ E.2.2.2.2.2.1.slots := ⟨Nat.zero_le _, Nat.zero_le _⟩
  refine z_cast (lv := [(0, .ref (q 0)), (1, .int x), (2, .int s)]) (ws := (zCW (zy E) q a g t c o n S)) (st := []) ?_ rfl rfl rfl
  refine z_iload_n h 1 rfl dX9_votes_0 ?_
  refine z_if_ge h 14 dX9_votes_1 (by decide) (fun c_1 => ?_) (fun c_1 => ?_)
  · exact absurd h0 (Int32.not_lt.mpr c_1)
  · exact x_throwS h hf hl (Ec := "java/lang/IllegalArgumentException") (text := "round is negative") (ik := 145) (is := 228) (ic := 149) (st := []) rfl (by decide +kernel) (by decide +kernel) (by decide +kernel) (by decide +kernel) (List.mem_of_getElem? (i := 1) (by decide +kernel)) (List.mem_of_getElem? (i := 2) (by decide +kernel)) (by decide +kernel) (by decide +kernel) (by decide +kernel) dX9_votes_4 dX9_votes_7 dX9_votes_8 dX9_votes_10 dX9_votes_13 (by decide) (Nat.le_of_ble_eq_true rfl) (by decide) (by decide)

set_option maxHeartbeats 4000000 in
set_option maxRecDepth 100000 in
/-- X9_votes throws -/
theorem x_X9_votes_2 {l : Launch} {y : zY} {D : va_G} (hl : l.stackTraces = false) (q : Nat → Nat) (a : Nat → Nat → Nat) (g t c o n : Nat → Nat → Int32) (S : Nat → Nat → Nat → Int32) (x s : Int32) (h0 : ¬ x < 0) (h1 : siC s = nI 1) : zX l y D yX9_votes wsX9_votes 7 117 1 6 [.ref (q 0), .int x, .int s] (zCW y q a g t c o n S) "java/lang/IndexOutOfBoundsException" := by
  refine x_start (own := RX9) (cc := cX9_votes) (maxL := 3) (ret := (some .int)) rfl (by decide +kernel) rfl (Nat.le_of_ble_eq_true rfl) ?_
  intro E hEl hEy hED h hf
  subst hEl hEy hED
  have hkR : 0 ≤ E.2.2.2.2.2.1.cells ∧ 0 ≤ E.2.2.2.2.2.1.slots := ⟨Nat.zero_le _, Nat.zero_le _⟩
  refine z_cast (lv := [(0, .ref (q 0)), (1, .int x), (2, .int s)]) (ws := (zCW (zy E) q a g t c o n S)) (st := []) ?_ rfl rfl rfl
  refine z_iload_n h 1 rfl dX9_votes_0 ?_
  refine z_if_ge h 14 dX9_votes_1 (by decide) (fun c_1 => ?_) (fun c_1 => ?_)
  · refine z_iload_n h 2 rfl dX9_votes_14 ?_
    refine z_callS h (As := [.int s]) (st := []) (ws2 := zCW (zy E) q a g t c o n S) (B := []) (B' := []) (r := some (.int (siC s))) 1 (c_X9_siteRefusal s) gX9_votes_X9_siteRefusal (by decide +kernel) rfl ⟨by decide, by decide⟩ [] rfl (by decide) rfl (Nat.le_of_ble_eq_true rfl) rfl rfl dX9_votes_15 ?_ hkR
    refine z_top (nI 1) h1 ?_
    exact x_callS h hf (As := [.int (nI 1)]) (st := []) 1 (x_any _ (c_X9_throwFor_1 hl)) gX9_votes_X9_throwFor (by decide +kernel) rfl ⟨by decide, by decide⟩ (Nat.le_of_ble_eq_true rfl) rfl rfl dX9_votes_18 ⟨by decide, by decide⟩
  · exact absurd (Int32.not_lt.mp h0) c_1

set_option maxHeartbeats 4000000 in
set_option maxRecDepth 100000 in
/-- orderRefusal 0 -/
theorem c_X9_orderRefusal_0 {l : Launch} {y : zY} {D : va_G} (q : Nat → Nat) (a : Nat → Nat → Nat) (g t c o n : Nat → Nat → Int32) (S : Nat → Nat → Nat → Int32) (hgt : okT g) : zM l y D yX9_orderRefusal eOR 4 92 [.ref (q 0), .ref (y.2 0), .ref (q 29)] (zCW y q a g t c o n S) (zCW y q a g t c o n S) (some (.int (srC g (o 1 0)))) := by
  refine z_start (own := RX9) (cc := cX9_orderRefusal) (maxL := 3) (ret := (some .int)) rfl (by decide +kernel) rfl (Nat.le_of_ble_eq_true rfl) (zCW_fst _ _ _ _ _ _ _ _ _ _ _ _ _ _ _) ?_
  intro E hEl hEy hED h hf
  subst hEl hEy hED
  have hkR : 0 ≤ E.2.2.2.2.2.1.cells ∧ 0 ≤ E.2.2.2.2.2.1.slots := ⟨Nat.zero_le _, Nat.zero_le _⟩
  refine z_cast (lv := [(0, .ref (q 0)), (1, .ref ((zy E).2 0)), (2, .ref (q 29))]) (ws := (zCW (zy E) q a g t c o n S)) (st := []) ?_ rfl rfl rfl
  refine z_gets h hzS (List.mem_of_getElem? (i := 1) (by decide +kernel)) dX9_orderRefusal_0 ?_
  refine z_aload_n h 1 rfl dX9_orderRefusal_3 ?_
  refine z_ord h (v := nI 0) (hzWo (w := 0) (by omega)) (hzOr (w := 0) (by omega)) oX9_orderRefusal ⟨by decide, Nat.le_of_ble_eq_true rfl⟩ dX9_orderRefusal_4 ?_
  refine z_ti h hzSt 0 rfl (by decide) (by decide) (v := .int (nI 1)) (by decide +kernel) dX9_orderRefusal_7 ?_
  refine z_tblIn h (off := 48) 56 dX9_orderRefusal_8 (by decide +kernel) (by decide +kernel) (by decide +kernel) (by decide) ?_
  refine z_aload_n h 0 rfl dX9_orderRefusal_56 ?_
  refine z_aload_n h 2 rfl dX9_orderRefusal_57 ?_
  refine z_iconst h (nI 0) (by decide +kernel) dX9_orderRefusal_58 ?_
  refine z_iald h 29 0 (f := o 1) rfl rfl rfl (by omega) (by decide) dX9_orderRefusal_59 ?_
  refine z_top (o 1 0) rfl ?_
  refine z_wV h (As := [.int (o 1 0)]) (st := []) (ws2 := zCW (zy E) q a g t c o n S) (r := some (.int (srC g (o 1 0)))) 1 (c_X9_snowRefusal q a g t c o n S (o 1 0)) egX9_orderRefusal_X9_snowRefusal (q0 := 0) (ci := 7) (by decide +kernel) rfl rfl rfl ⟨by decide, by decide⟩ (Nat.le_of_ble_eq_true rfl) rfl rfl dX9_orderRefusal_60 ?_ hkR
  exact z_iret h hf rfl rfl rfl dX9_orderRefusal_63

set_option maxHeartbeats 4000000 in
set_option maxRecDepth 100000 in
/-- orderRefusal 1 -/
theorem c_X9_orderRefusal_1 {l : Launch} {y : zY} {D : va_G} (q : Nat → Nat) (a : Nat → Nat → Nat) (g t c o n : Nat → Nat → Int32) (S : Nat → Nat → Nat → Int32) (hgt : okT g) : zM l y D yX9_orderRefusal eOR 4 92 [.ref (q 0), .ref (y.2 1), .ref (q 29)] (zCW y q a g t c o n S) (zCW y q a g t c o n S) (some (.int (prC g (un (o 1 0)) (o 1 1)))) := by
  refine z_start (own := RX9) (cc := cX9_orderRefusal) (maxL := 3) (ret := (some .int)) rfl (by decide +kernel) rfl (Nat.le_of_ble_eq_true rfl) (zCW_fst _ _ _ _ _ _ _ _ _ _ _ _ _ _ _) ?_
  intro E hEl hEy hED h hf
  subst hEl hEy hED
  have hkR : 0 ≤ E.2.2.2.2.2.1.cells ∧ 0 ≤ E.2.2.2.2.2.1.slots := ⟨Nat.zero_le _, Nat.zero_le _⟩
  refine z_cast (lv := [(0, .ref (q 0)), (1, .ref ((zy E).2 1)), (2, .ref (q 29))]) (ws := (zCW (zy E) q a g t c o n S)) (st := []) ?_ rfl rfl rfl
  refine z_gets h hzS (List.mem_of_getElem? (i := 1) (by decide +kernel)) dX9_orderRefusal_0 ?_
  refine z_aload_n h 1 rfl dX9_orderRefusal_3 ?_
  refine z_ord h (v := nI 1) (hzWo (w := 1) (by omega)) (hzOr (w := 1) (by omega)) oX9_orderRefusal ⟨by decide, Nat.le_of_ble_eq_true rfl⟩ dX9_orderRefusal_4 ?_
  refine z_ti h hzSt 1 rfl (by decide) (by decide) (v := .int (nI 2)) (by decide +kernel) dX9_orderRefusal_7 ?_
  refine z_tblIn h (off := 56) 64 dX9_orderRefusal_8 (by decide +kernel) (by decide +kernel) (by decide +kernel) (by decide) ?_
  refine z_aload_n h 0 rfl dX9_orderRefusal_64 ?_
  refine z_aload_n h 2 rfl dX9_orderRefusal_65 ?_
  refine z_iconst h (nI 0) (by decide +kernel) dX9_orderRefusal_66 ?_
  refine z_iald h 29 0 (f := o 1) rfl rfl rfl (by omega) (by decide) dX9_orderRefusal_67 ?_
  refine z_top (nI (un (o 1 0))) (un_e (o 1 0)) ?_
  refine z_aload_n h 2 rfl dX9_orderRefusal_68 ?_
  refine z_iconst h (nI 1) (by decide +kernel) dX9_orderRefusal_69 ?_
  refine z_iald h 29 1 (f := o 1) rfl rfl rfl (by omega) (by decide) dX9_orderRefusal_70 ?_
  refine z_top (o 1 1) rfl ?_
  refine z_wV h (As := [.int (nI (un (o 1 0))), .int (o 1 1)]) (st := []) (ws2 := zCW (zy E) q a g t c o n S) (r := some (.int (prC g (un (o 1 0)) (o 1 1)))) 2 (c_X9_pressRefusal q a g t c o n S (un (o 1 0)) (o 1 1) (un_lt _)) egX9_orderRefusal_X9_pressRefusal (q0 := 0) (ci := 7) (by decide +kernel) rfl rfl rfl ⟨by decide, by decide⟩ (Nat.le_of_ble_eq_true rfl) rfl rfl dX9_orderRefusal_71 ?_ hkR
  exact z_iret h hf rfl rfl rfl dX9_orderRefusal_74

set_option maxHeartbeats 4000000 in
set_option maxRecDepth 100000 in
/-- orderRefusal 2 -/
theorem c_X9_orderRefusal_2 {l : Launch} {y : zY} {D : va_G} (q : Nat → Nat) (a : Nat → Nat → Nat) (g t c o n : Nat → Nat → Int32) (S : Nat → Nat → Nat → Int32) (hgt : okT g) : zM l y D yX9_orderRefusal eOR 4 92 [.ref (q 0), .ref (y.2 2), .ref (q 29)] (zCW y q a g t c o n S) (zCW y q a g t c o n S) (some (.int (stC g (un (o 1 0)) (un (o 1 1))))) := by
  refine z_start (own := RX9) (cc := cX9_orderRefusal) (maxL := 3) (ret := (some .int)) rfl (by decide +kernel) rfl (Nat.le_of_ble_eq_true rfl) (zCW_fst _ _ _ _ _ _ _ _ _ _ _ _ _ _ _) ?_
  intro E hEl hEy hED h hf
  subst hEl hEy hED
  have hkR : 0 ≤ E.2.2.2.2.2.1.cells ∧ 0 ≤ E.2.2.2.2.2.1.slots := ⟨Nat.zero_le _, Nat.zero_le _⟩
  refine z_cast (lv := [(0, .ref (q 0)), (1, .ref ((zy E).2 2)), (2, .ref (q 29))]) (ws := (zCW (zy E) q a g t c o n S)) (st := []) ?_ rfl rfl rfl
  refine z_gets h hzS (List.mem_of_getElem? (i := 1) (by decide +kernel)) dX9_orderRefusal_0 ?_
  refine z_aload_n h 1 rfl dX9_orderRefusal_3 ?_
  refine z_ord h (v := nI 2) (hzWo (w := 2) (by omega)) (hzOr (w := 2) (by omega)) oX9_orderRefusal ⟨by decide, Nat.le_of_ble_eq_true rfl⟩ dX9_orderRefusal_4 ?_
  refine z_ti h hzSt 2 rfl (by decide) (by decide) (v := .int (nI 3)) (by decide +kernel) dX9_orderRefusal_7 ?_
  refine z_tblIn h (off := 67) 75 dX9_orderRefusal_8 (by decide +kernel) (by decide +kernel) (by decide +kernel) (by decide) ?_
  refine z_aload_n h 0 rfl dX9_orderRefusal_75 ?_
  refine z_aload_n h 2 rfl dX9_orderRefusal_76 ?_
  refine z_iconst h (nI 0) (by decide +kernel) dX9_orderRefusal_77 ?_
  refine z_iald h 29 0 (f := o 1) rfl rfl rfl (by omega) (by decide) dX9_orderRefusal_78 ?_
  refine z_top (nI (un (o 1 0))) (un_e (o 1 0)) ?_
  refine z_aload_n h 2 rfl dX9_orderRefusal_79 ?_
  refine z_iconst h (nI 1) (by decide +kernel) dX9_orderRefusal_80 ?_
  refine z_iald h 29 1 (f := o 1) rfl rfl rfl (by omega) (by decide) dX9_orderRefusal_81 ?_
  refine z_top (nI (un (o 1 1))) (un_e (o 1 1)) ?_
  refine z_wV h (As := [.int (nI (un (o 1 0))), .int (nI (un (o 1 1)))]) (st := []) (ws2 := zCW (zy E) q a g t c o n S) (r := some (.int (stC g (un (o 1 0)) (un (o 1 1))))) 2 (c_X9_stackRefusal q a g t c o n S (un (o 1 0)) (un (o 1 1)) (un_lt _) (un_lt _)) egX9_orderRefusal_X9_stackRefusal (q0 := 0) (ci := 7) (by decide +kernel) rfl rfl rfl ⟨by decide, by decide⟩ (Nat.le_of_ble_eq_true rfl) rfl rfl dX9_orderRefusal_82 ?_ hkR
  exact z_iret h hf rfl rfl rfl dX9_orderRefusal_85

set_option maxHeartbeats 4000000 in
set_option maxRecDepth 100000 in
/-- orderRefusal 3 -/
theorem c_X9_orderRefusal_3 {l : Launch} {y : zY} {D : va_G} (q : Nat → Nat) (a : Nat → Nat → Nat) (g t c o n : Nat → Nat → Int32) (S : Nat → Nat → Nat → Int32) (hgt : okT g) : zM l y D yX9_orderRefusal eOR 4 92 [.ref (q 0), .ref (y.2 3), .ref (q 29)] (zCW y q a g t c o n S) (zCW y q a g t c o n S) (some (.int (toC g (o 1 0)))) := by
  refine z_start (own := RX9) (cc := cX9_orderRefusal) (maxL := 3) (ret := (some .int)) rfl (by decide +kernel) rfl (Nat.le_of_ble_eq_true rfl) (zCW_fst _ _ _ _ _ _ _ _ _ _ _ _ _ _ _) ?_
  intro E hEl hEy hED h hf
  subst hEl hEy hED
  have hkR : 0 ≤ E.2.2.2.2.2.1.cells ∧ 0 ≤ E.2.2.2.2.2.1.slots := ⟨Nat.zero_le _, Nat.zero_le _⟩
  refine z_cast (lv := [(0, .ref (q 0)), (1, .ref ((zy E).2 3)), (2, .ref (q 29))]) (ws := (zCW (zy E) q a g t c o n S)) (st := []) ?_ rfl rfl rfl
  refine z_gets h hzS (List.mem_of_getElem? (i := 1) (by decide +kernel)) dX9_orderRefusal_0 ?_
  refine z_aload_n h 1 rfl dX9_orderRefusal_3 ?_
  refine z_ord h (v := nI 3) (hzWo (w := 3) (by omega)) (hzOr (w := 3) (by omega)) oX9_orderRefusal ⟨by decide, Nat.le_of_ble_eq_true rfl⟩ dX9_orderRefusal_4 ?_
  refine z_ti h hzSt 3 rfl (by decide) (by decide) (v := .int (nI 4)) (by decide +kernel) dX9_orderRefusal_7 ?_
  refine z_tblIn h (off := 78) 86 dX9_orderRefusal_8 (by decide +kernel) (by decide +kernel) (by decide +kernel) (by decide) ?_
  refine z_aload_n h 0 rfl dX9_orderRefusal_86 ?_
  refine z_aload_n h 2 rfl dX9_orderRefusal_87 ?_
  refine z_iconst h (nI 0) (by decide +kernel) dX9_orderRefusal_88 ?_
  refine z_iald h 29 0 (f := o 1) rfl rfl rfl (by omega) (by decide) dX9_orderRefusal_89 ?_
  refine z_top (o 1 0) rfl ?_
  refine z_wV h (As := [.int (o 1 0)]) (st := []) (ws2 := zCW (zy E) q a g t c o n S) (r := some (.int (toC g (o 1 0)))) 1 (c_X9_toolRefusal q a g t c o n S (o 1 0)) egX9_orderRefusal_X9_toolRefusal (q0 := 0) (ci := 7) (by decide +kernel) rfl rfl rfl ⟨by decide, by decide⟩ (Nat.le_of_ble_eq_true rfl) rfl rfl dX9_orderRefusal_90 ?_ hkR
  exact z_iret h hf rfl rfl rfl dX9_orderRefusal_93

set_option maxHeartbeats 4000000 in
set_option maxRecDepth 100000 in
/-- orderRefusal 4 -/
theorem c_X9_orderRefusal_4 {l : Launch} {y : zY} {D : va_G} (q : Nat → Nat) (a : Nat → Nat → Nat) (g t c o n : Nat → Nat → Int32) (S : Nat → Nat → Nat → Int32) (hgt : okT g) : zM l y D yX9_orderRefusal eOR 4 92 [.ref (q 0), .ref (y.2 4), .ref (q 29)] (zCW y q a g t c o n S) (zCW y q a g t c o n S) (some (.int (crC g (un (o 1 0)) (un (o 1 1)) (un (o 1 2)) (o 1 3)))) := by
  refine z_start (own := RX9) (cc := cX9_orderRefusal) (maxL := 3) (ret := (some .int)) rfl (by decide +kernel) rfl (Nat.le_of_ble_eq_true rfl) (zCW_fst _ _ _ _ _ _ _ _ _ _ _ _ _ _ _) ?_
  intro E hEl hEy hED h hf
  subst hEl hEy hED
  have hkR : 0 ≤ E.2.2.2.2.2.1.cells ∧ 0 ≤ E.2.2.2.2.2.1.slots := ⟨Nat.zero_le _, Nat.zero_le _⟩
  refine z_cast (lv := [(0, .ref (q 0)), (1, .ref ((zy E).2 4)), (2, .ref (q 29))]) (ws := (zCW (zy E) q a g t c o n S)) (st := []) ?_ rfl rfl rfl
  refine z_gets h hzS (List.mem_of_getElem? (i := 1) (by decide +kernel)) dX9_orderRefusal_0 ?_
  refine z_aload_n h 1 rfl dX9_orderRefusal_3 ?_
  refine z_ord h (v := nI 4) (hzWo (w := 4) (by omega)) (hzOr (w := 4) (by omega)) oX9_orderRefusal ⟨by decide, Nat.le_of_ble_eq_true rfl⟩ dX9_orderRefusal_4 ?_
  refine z_ti h hzSt 4 rfl (by decide) (by decide) (v := .int (nI 5)) (by decide +kernel) dX9_orderRefusal_7 ?_
  refine z_tblIn h (off := 86) 94 dX9_orderRefusal_8 (by decide +kernel) (by decide +kernel) (by decide +kernel) (by decide) ?_
  refine z_aload_n h 0 rfl dX9_orderRefusal_94 ?_
  refine z_aload_n h 2 rfl dX9_orderRefusal_95 ?_
  refine z_iconst h (nI 0) (by decide +kernel) dX9_orderRefusal_96 ?_
  refine z_iald h 29 0 (f := o 1) rfl rfl rfl (by omega) (by decide) dX9_orderRefusal_97 ?_
  refine z_top (nI (un (o 1 0))) (un_e (o 1 0)) ?_
  refine z_aload_n h 2 rfl dX9_orderRefusal_98 ?_
  refine z_iconst h (nI 1) (by decide +kernel) dX9_orderRefusal_99 ?_
  refine z_iald h 29 1 (f := o 1) rfl rfl rfl (by omega) (by decide) dX9_orderRefusal_100 ?_
  refine z_top (nI (un (o 1 1))) (un_e (o 1 1)) ?_
  refine z_aload_n h 2 rfl dX9_orderRefusal_101 ?_
  refine z_iconst h (nI 2) (by decide +kernel) dX9_orderRefusal_102 ?_
  refine z_iald h 29 2 (f := o 1) rfl rfl rfl (by omega) (by decide) dX9_orderRefusal_103 ?_
  refine z_top (nI (un (o 1 2))) (un_e (o 1 2)) ?_
  refine z_aload_n h 2 rfl dX9_orderRefusal_104 ?_
  refine z_iconst h (nI 3) (by decide +kernel) dX9_orderRefusal_105 ?_
  refine z_iald h 29 3 (f := o 1) rfl rfl rfl (by omega) (by decide) dX9_orderRefusal_106 ?_
  refine z_top (o 1 3) rfl ?_
  refine z_wV h (As := [.int (nI (un (o 1 0))), .int (nI (un (o 1 1))), .int (nI (un (o 1 2))), .int (o 1 3)]) (st := []) (ws2 := zCW (zy E) q a g t c o n S) (r := some (.int (crC g (un (o 1 0)) (un (o 1 1)) (un (o 1 2)) (o 1 3)))) 4 (c_X9_carveRefusal q a g t c o n S (un (o 1 0)) (un (o 1 1)) (un (o 1 2)) (o 1 3) (un_lt _) (un_lt _) (un_lt _) hgt) egX9_orderRefusal_X9_carveRefusal (q0 := 0) (ci := 7) (by decide +kernel) rfl rfl rfl ⟨by decide, by decide⟩ (Nat.le_of_ble_eq_true rfl) rfl rfl dX9_orderRefusal_107 ?_ hkR
  exact z_iret h hf rfl rfl rfl dX9_orderRefusal_110

set_option maxHeartbeats 4000000 in
set_option maxRecDepth 100000 in
/-- orderRefusal 5 -/
theorem c_X9_orderRefusal_5 {l : Launch} {y : zY} {D : va_G} (q : Nat → Nat) (a : Nat → Nat → Nat) (g t c o n : Nat → Nat → Int32) (S : Nat → Nat → Nat → Int32) (hgt : okT g) : zM l y D yX9_orderRefusal eOR 4 92 [.ref (q 0), .ref (y.2 5), .ref (q 29)] (zCW y q a g t c o n S) (zCW y q a g t c o n S) (some (.int (siC (o 1 0)))) := by
  refine z_start (own := RX9) (cc := cX9_orderRefusal) (maxL := 3) (ret := (some .int)) rfl (by decide +kernel) rfl (Nat.le_of_ble_eq_true rfl) (zCW_fst _ _ _ _ _ _ _ _ _ _ _ _ _ _ _) ?_
  intro E hEl hEy hED h hf
  subst hEl hEy hED
  have hkR : 0 ≤ E.2.2.2.2.2.1.cells ∧ 0 ≤ E.2.2.2.2.2.1.slots := ⟨Nat.zero_le _, Nat.zero_le _⟩
  refine z_cast (lv := [(0, .ref (q 0)), (1, .ref ((zy E).2 5)), (2, .ref (q 29))]) (ws := (zCW (zy E) q a g t c o n S)) (st := []) ?_ rfl rfl rfl
  refine z_gets h hzS (List.mem_of_getElem? (i := 1) (by decide +kernel)) dX9_orderRefusal_0 ?_
  refine z_aload_n h 1 rfl dX9_orderRefusal_3 ?_
  refine z_ord h (v := nI 5) (hzWo (w := 5) (by omega)) (hzOr (w := 5) (by omega)) oX9_orderRefusal ⟨by decide, Nat.le_of_ble_eq_true rfl⟩ dX9_orderRefusal_4 ?_
  refine z_ti h hzSt 5 rfl (by decide) (by decide) (v := .int (nI 6)) (by decide +kernel) dX9_orderRefusal_7 ?_
  refine z_tblIn h (off := 103) 111 dX9_orderRefusal_8 (by decide +kernel) (by decide +kernel) (by decide +kernel) (by decide) ?_
  refine z_aload_n h 2 rfl dX9_orderRefusal_111 ?_
  refine z_iconst h (nI 0) (by decide +kernel) dX9_orderRefusal_112 ?_
  refine z_iald h 29 0 (f := o 1) rfl rfl rfl (by omega) (by decide) dX9_orderRefusal_113 ?_
  refine z_top (o 1 0) rfl ?_
  refine z_callS h (As := [.int (o 1 0)]) (st := []) (ws2 := zCW (zy E) q a g t c o n S) (B := []) (B' := []) (r := some (.int (siC (o 1 0)))) 1 (c_X9_siteRefusal (o 1 0)) egX9_orderRefusal_X9_siteRefusal (by decide +kernel) rfl ⟨by decide, by decide⟩ [] rfl (by decide) rfl (Nat.le_of_ble_eq_true rfl) rfl rfl dX9_orderRefusal_114 ?_ hkR
  exact z_iret h hf rfl rfl rfl dX9_orderRefusal_117

set_option maxHeartbeats 4000000 in
set_option maxRecDepth 100000 in
/-- orderRefusal 6 -/
theorem c_X9_orderRefusal_6 {l : Launch} {y : zY} {D : va_G} (q : Nat → Nat) (a : Nat → Nat → Nat) (g t c o n : Nat → Nat → Int32) (S : Nat → Nat → Nat → Int32) (hgt : okT g) : zM l y D yX9_orderRefusal eOR 4 92 [.ref (q 0), .ref (y.2 6), .ref (q 29)] (zCW y q a g t c o n S) (zCW y q a g t c o n S) (some (.int (hoC (o 1 0)))) := by
  refine z_start (own := RX9) (cc := cX9_orderRefusal) (maxL := 3) (ret := (some .int)) rfl (by decide +kernel) rfl (Nat.le_of_ble_eq_true rfl) (zCW_fst _ _ _ _ _ _ _ _ _ _ _ _ _ _ _) ?_
  intro E hEl hEy hED h hf
  subst hEl hEy hED
  have hkR : 0 ≤ E.2.2.2.2.2.1.cells ∧ 0 ≤ E.2.2.2.2.2.1.slots := ⟨Nat.zero_le _, Nat.zero_le _⟩
  refine z_cast (lv := [(0, .ref (q 0)), (1, .ref ((zy E).2 6)), (2, .ref (q 29))]) (ws := (zCW (zy E) q a g t c o n S)) (st := []) ?_ rfl rfl rfl
  refine z_gets h hzS (List.mem_of_getElem? (i := 1) (by decide +kernel)) dX9_orderRefusal_0 ?_
  refine z_aload_n h 1 rfl dX9_orderRefusal_3 ?_
  refine z_ord h (v := nI 6) (hzWo (w := 6) (by omega)) (hzOr (w := 6) (by omega)) oX9_orderRefusal ⟨by decide, Nat.le_of_ble_eq_true rfl⟩ dX9_orderRefusal_4 ?_
  refine z_ti h hzSt 6 rfl (by decide) (by decide) (v := .int (nI 7)) (by decide +kernel) dX9_orderRefusal_7 ?_
  refine z_tblIn h (off := 110) 118 dX9_orderRefusal_8 (by decide +kernel) (by decide +kernel) (by decide +kernel) (by decide) ?_
  refine z_aload_n h 2 rfl dX9_orderRefusal_118 ?_
  refine z_iconst h (nI 0) (by decide +kernel) dX9_orderRefusal_119 ?_
  refine z_iald h 29 0 (f := o 1) rfl rfl rfl (by omega) (by decide) dX9_orderRefusal_120 ?_
  refine z_top (o 1 0) rfl ?_
  refine z_callS h (As := [.int (o 1 0)]) (st := []) (ws2 := zCW (zy E) q a g t c o n S) (B := []) (B' := []) (r := some (.int (hoC (o 1 0)))) 1 (c_X9_hoursRefusal (o 1 0)) egX9_orderRefusal_X9_hoursRefusal (by decide +kernel) rfl ⟨by decide, by decide⟩ [] rfl (by decide) rfl (Nat.le_of_ble_eq_true rfl) rfl rfl dX9_orderRefusal_121 ?_ hkR
  exact z_iret h hf rfl rfl rfl dX9_orderRefusal_124

set_option maxHeartbeats 4000000 in
set_option maxRecDepth 100000 in
/-- orderRefusal 7 -/
theorem c_X9_orderRefusal_7 {l : Launch} {y : zY} {D : va_G} (q : Nat → Nat) (a : Nat → Nat → Nat) (g t c o n : Nat → Nat → Int32) (S : Nat → Nat → Nat → Int32) (hgt : okT g) : zM l y D yX9_orderRefusal eOR 4 92 [.ref (q 0), .ref (y.2 7), .ref (q 29)] (zCW y q a g t c o n S) (zCW y q a g t c o n S) (some (.int (hoC (o 1 0)))) := by
  refine z_start (own := RX9) (cc := cX9_orderRefusal) (maxL := 3) (ret := (some .int)) rfl (by decide +kernel) rfl (Nat.le_of_ble_eq_true rfl) (zCW_fst _ _ _ _ _ _ _ _ _ _ _ _ _ _ _) ?_
  intro E hEl hEy hED h hf
  subst hEl hEy hED
  have hkR : 0 ≤ E.2.2.2.2.2.1.cells ∧ 0 ≤ E.2.2.2.2.2.1.slots := ⟨Nat.zero_le _, Nat.zero_le _⟩
  refine z_cast (lv := [(0, .ref (q 0)), (1, .ref ((zy E).2 7)), (2, .ref (q 29))]) (ws := (zCW (zy E) q a g t c o n S)) (st := []) ?_ rfl rfl rfl
  refine z_gets h hzS (List.mem_of_getElem? (i := 1) (by decide +kernel)) dX9_orderRefusal_0 ?_
  refine z_aload_n h 1 rfl dX9_orderRefusal_3 ?_
  refine z_ord h (v := nI 7) (hzWo (w := 7) (by omega)) (hzOr (w := 7) (by omega)) oX9_orderRefusal ⟨by decide, Nat.le_of_ble_eq_true rfl⟩ dX9_orderRefusal_4 ?_
  refine z_ti h hzSt 7 rfl (by decide) (by decide) (v := .int (nI 8)) (by decide +kernel) dX9_orderRefusal_7 ?_
  refine z_tblIn h (off := 110) 118 dX9_orderRefusal_8 (by decide +kernel) (by decide +kernel) (by decide +kernel) (by decide) ?_
  refine z_aload_n h 2 rfl dX9_orderRefusal_118 ?_
  refine z_iconst h (nI 0) (by decide +kernel) dX9_orderRefusal_119 ?_
  refine z_iald h 29 0 (f := o 1) rfl rfl rfl (by omega) (by decide) dX9_orderRefusal_120 ?_
  refine z_top (o 1 0) rfl ?_
  refine z_callS h (As := [.int (o 1 0)]) (st := []) (ws2 := zCW (zy E) q a g t c o n S) (B := []) (B' := []) (r := some (.int (hoC (o 1 0)))) 1 (c_X9_hoursRefusal (o 1 0)) egX9_orderRefusal_X9_hoursRefusal (by decide +kernel) rfl ⟨by decide, by decide⟩ [] rfl (by decide) rfl (Nat.le_of_ble_eq_true rfl) rfl rfl dX9_orderRefusal_121 ?_ hkR
  exact z_iret h hf rfl rfl rfl dX9_orderRefusal_124

set_option maxHeartbeats 4000000 in
set_option maxRecDepth 100000 in
/-- orderRefusal 8 -/
theorem c_X9_orderRefusal_8 {l : Launch} {y : zY} {D : va_G} (q : Nat → Nat) (a : Nat → Nat → Nat) (g t c o n : Nat → Nat → Int32) (S : Nat → Nat → Nat → Int32) (hgt : okT g) : zM l y D yX9_orderRefusal eOR 4 92 [.ref (q 0), .ref (y.2 8), .ref (q 29)] (zCW y q a g t c o n S) (zCW y q a g t c o n S) (some (.int (nI 0))) := by
  refine z_start (own := RX9) (cc := cX9_orderRefusal) (maxL := 3) (ret := (some .int)) rfl (by decide +kernel) rfl (Nat.le_of_ble_eq_true rfl) (zCW_fst _ _ _ _ _ _ _ _ _ _ _ _ _ _ _) ?_
  intro E hEl hEy hED h hf
  subst hEl hEy hED
  have hkR : 0 ≤ E.2.2.2.2.2.1.cells ∧ 0 ≤ E.2.2.2.2.2.1.slots := ⟨Nat.zero_le _, Nat.zero_le _⟩
  refine z_cast (lv := [(0, .ref (q 0)), (1, .ref ((zy E).2 8)), (2, .ref (q 29))]) (ws := (zCW (zy E) q a g t c o n S)) (st := []) ?_ rfl rfl rfl
  refine z_gets h hzS (List.mem_of_getElem? (i := 1) (by decide +kernel)) dX9_orderRefusal_0 ?_
  refine z_aload_n h 1 rfl dX9_orderRefusal_3 ?_
  refine z_ord h (v := nI 8) (hzWo (w := 8) (by omega)) (hzOr (w := 8) (by omega)) oX9_orderRefusal ⟨by decide, Nat.le_of_ble_eq_true rfl⟩ dX9_orderRefusal_4 ?_
  refine z_ti h hzSt 8 rfl (by decide) (by decide) (v := .int (nI 0)) (by decide +kernel) dX9_orderRefusal_7 ?_
  refine z_tblOut h 125 dX9_orderRefusal_8 (by decide +kernel) (by decide) ?_
  refine z_iconst h (nI 0) (by decide +kernel) dX9_orderRefusal_125 ?_
  exact z_iret h hf rfl rfl rfl dX9_orderRefusal_126

theorem iX9_carryOut_X9 : ∀ w ∈ u_ws RX9 TX9 5, w ∈ eCO := by decide +kernel
set_option maxHeartbeats 4000000 in
set_option maxRecDepth 100000 in
/-- carryOut 0 -/
theorem c_X9_carryOut_0 {l : Launch} {y : zY} {D : va_G} (q : Nat → Nat) (a : Nat → Nat → Nat) (g t c o n : Nat → Nat → Int32) (S : Nat → Nat → Nat → Int32) (hg : okH g) (hgt : okT g) : zM l y D yX9_carryOut eCO 5 119 [.ref (q 0), .ref (y.2 0), .ref (q 29)] (zCW y q a g t c o n S) (zCW y q a (if srC g (o 1 0) = 0 then tsG g (o 1 0) else g) t c o n S) (some (.int (if srC g (o 1 0) = 0 then nI 1 else nI 0))) := by
  refine z_start (own := RX9) (cc := cX9_carryOut) (maxL := 3) (ret := (some .boolean)) rfl (by decide +kernel) rfl (Nat.le_of_ble_eq_true rfl) (zCW_fst _ _ _ _ _ _ _ _ _ _ _ _ _ _ _) ?_
  intro E hEl hEy hED h hf
  subst hEl hEy hED
  have hkR : 0 ≤ E.2.2.2.2.2.1.cells ∧ 0 ≤ E.2.2.2.2.2.1.slots := ⟨Nat.zero_le _, Nat.zero_le _⟩
  refine z_cast (lv := [(0, .ref (q 0)), (1, .ref ((zy E).2 0)), (2, .ref (q 29))]) (ws := (zCW (zy E) q a g t c o n S)) (st := []) ?_ rfl rfl rfl
  refine z_aload_n h 1 rfl dX9_carryOut_0 ?_
  refine z_ifnR h dX9_carryOut_1 ?_
  refine z_aload_n h 2 rfl dX9_carryOut_4 ?_
  refine z_alen h 29 0 (nI 4) rfl rfl rfl dX9_carryOut_5 ?_
  refine z_iconst h (nI 4) (by decide +kernel) dX9_carryOut_6 ?_
  refine z_icmp_lt h 19 dX9_carryOut_7 (by decide) (fun c_7 => ?_) (fun c_7 => ?_)
  · exact absurd c_7 (by decide +kernel)
  · refine z_aload_n h 0 rfl dX9_carryOut_10 ?_
    refine z_aload_n h 1 rfl dX9_carryOut_11 ?_
    refine z_aload_n h 2 rfl dX9_carryOut_12 ?_
    refine z_wV h (As := [.ref ((zy E).2 0), .ref (q 29)]) (st := []) (ws2 := zCW (zy E) q a g t c o n S) (r := some (.int (srC g (o 1 0)))) 2 (c_X9_orderRefusal_0 q a g t c o n S hgt) egX9_carryOut_X9_orderRefusal (q0 := 0) (ci := 7) (by decide +kernel) rfl rfl rfl ⟨by decide, by decide⟩ (Nat.le_of_ble_eq_true rfl) rfl rfl dX9_carryOut_13 ?_ hkR
    refine z_if_eq h 21 dX9_carryOut_16 (by decide) (fun c_16 => ?_) (fun c_16 => ?_)
    · refine z_gets h hzS (List.mem_of_getElem? (i := 1) (by decide +kernel)) dX9_carryOut_21 ?_
      refine z_aload_n h 1 rfl dX9_carryOut_24 ?_
      refine z_ord h (v := nI 0) (hzWo (w := 0) (by omega)) (hzOr (w := 0) (by omega)) oX9_carryOut ⟨by decide, Nat.le_of_ble_eq_true rfl⟩ dX9_carryOut_25 ?_
      refine z_ti h hzSt 0 rfl (by decide) (by decide) (v := .int (nI 1)) (by decide +kernel) dX9_carryOut_28 ?_
      refine z_tblIn h (off := 47) 76 dX9_carryOut_29 (by decide +kernel) (by decide +kernel) (by decide +kernel) (by decide) ?_
      refine z_aload_n h 0 rfl dX9_carryOut_76 ?_
      refine z_get h 0 7 0 (v := .ref (q 1)) rfl rfl iX9_carryOut_X9 (by decide) (List.mem_of_getElem? (i := 2) (by decide +kernel)) rfl rfl dX9_carryOut_77 ?_
      refine z_aload_n h 2 rfl dX9_carryOut_80 ?_
      refine z_iconst h (nI 0) (by decide +kernel) dX9_carryOut_81 ?_
      refine z_iald h 29 0 (f := o 1) rfl rfl rfl (by omega) (by decide) dX9_carryOut_82 ?_
      refine z_top (o 1 0) rfl ?_
      refine z_wV h (As := [.int (o 1 0)]) (st := []) (ws2 := zCW (zy E) q a (tsG g (o 1 0)) t c o n S) (r := none) 1 (l_now (c_X5_takeSnow (fun i => q (1 + i)) g (o 1 0))) egX9_carryOut_X5_takeSnow (q0 := 1) (ci := 4) (by decide +kernel) rfl rfl rfl ⟨by decide, by decide⟩ (Nat.le_of_ble_eq_true rfl) rfl rfl dX9_carryOut_83 ?_ hkR
      refine z_goto h 216 dX9_carryOut_86 (by decide) ?_
      refine z_iconst h (nI 1) (by decide +kernel) dX9_carryOut_216 ?_
      exact z_zret h hf rfl (by decide +kernel) (by rw [if_pos c_16]) (by rw [if_pos c_16] <;> rfl) dX9_carryOut_217
    · refine z_iconst h (nI 0) (by decide +kernel) dX9_carryOut_19 ?_
      exact z_zret h hf rfl (by decide +kernel) (by rw [if_neg c_16]) (by rw [if_neg c_16] <;> rfl) dX9_carryOut_20

set_option maxHeartbeats 4000000 in
set_option maxRecDepth 100000 in
/-- carryOut 1 -/
theorem c_X9_carryOut_1 {l : Launch} {y : zY} {D : va_G} (q : Nat → Nat) (a : Nat → Nat → Nat) (g t c o n : Nat → Nat → Int32) (S : Nat → Nat → Nat → Int32) (hg : okH g) (hgt : okT g) : zM l y D yX9_carryOut eCO 5 119 [.ref (q 0), .ref (y.2 1), .ref (q 29)] (zCW y q a g t c o n S) (zCW y q a (if prC g (un (o 1 0)) (o 1 1) = 0 then mkG g (un (o 1 0)) (o 1 1) else g) t c o n S) (some (.int (if prC g (un (o 1 0)) (o 1 1) = 0 then nI 1 else nI 0))) := by
  refine z_start (own := RX9) (cc := cX9_carryOut) (maxL := 3) (ret := (some .boolean)) rfl (by decide +kernel) rfl (Nat.le_of_ble_eq_true rfl) (zCW_fst _ _ _ _ _ _ _ _ _ _ _ _ _ _ _) ?_
  intro E hEl hEy hED h hf
  subst hEl hEy hED
  have hkR : 0 ≤ E.2.2.2.2.2.1.cells ∧ 0 ≤ E.2.2.2.2.2.1.slots := ⟨Nat.zero_le _, Nat.zero_le _⟩
  refine z_cast (lv := [(0, .ref (q 0)), (1, .ref ((zy E).2 1)), (2, .ref (q 29))]) (ws := (zCW (zy E) q a g t c o n S)) (st := []) ?_ rfl rfl rfl
  refine z_aload_n h 1 rfl dX9_carryOut_0 ?_
  refine z_ifnR h dX9_carryOut_1 ?_
  refine z_aload_n h 2 rfl dX9_carryOut_4 ?_
  refine z_alen h 29 0 (nI 4) rfl rfl rfl dX9_carryOut_5 ?_
  refine z_iconst h (nI 4) (by decide +kernel) dX9_carryOut_6 ?_
  refine z_icmp_lt h 19 dX9_carryOut_7 (by decide) (fun c_7 => ?_) (fun c_7 => ?_)
  · exact absurd c_7 (by decide +kernel)
  · refine z_aload_n h 0 rfl dX9_carryOut_10 ?_
    refine z_aload_n h 1 rfl dX9_carryOut_11 ?_
    refine z_aload_n h 2 rfl dX9_carryOut_12 ?_
    refine z_wV h (As := [.ref ((zy E).2 1), .ref (q 29)]) (st := []) (ws2 := zCW (zy E) q a g t c o n S) (r := some (.int (prC g (un (o 1 0)) (o 1 1)))) 2 (c_X9_orderRefusal_1 q a g t c o n S hgt) egX9_carryOut_X9_orderRefusal (q0 := 0) (ci := 7) (by decide +kernel) rfl rfl rfl ⟨by decide, by decide⟩ (Nat.le_of_ble_eq_true rfl) rfl rfl dX9_carryOut_13 ?_ hkR
    refine z_if_eq h 21 dX9_carryOut_16 (by decide) (fun c_16 => ?_) (fun c_16 => ?_)
    · have hc9 := prC_ok (un_lt _) c_16
      refine z_gets h hzS (List.mem_of_getElem? (i := 1) (by decide +kernel)) dX9_carryOut_21 ?_
      refine z_aload_n h 1 rfl dX9_carryOut_24 ?_
      refine z_ord h (v := nI 1) (hzWo (w := 1) (by omega)) (hzOr (w := 1) (by omega)) oX9_carryOut ⟨by decide, Nat.le_of_ble_eq_true rfl⟩ dX9_carryOut_25 ?_
      refine z_ti h hzSt 1 rfl (by decide) (by decide) (v := .int (nI 2)) (by decide +kernel) dX9_carryOut_28 ?_
      refine z_tblIn h (off := 60) 89 dX9_carryOut_29 (by decide +kernel) (by decide +kernel) (by decide +kernel) (by decide) ?_
      refine z_aload_n h 0 rfl dX9_carryOut_89 ?_
      refine z_get h 0 7 0 (v := .ref (q 1)) rfl rfl iX9_carryOut_X9 (by decide) (List.mem_of_getElem? (i := 2) (by decide +kernel)) rfl rfl dX9_carryOut_90 ?_
      refine z_aload_n h 2 rfl dX9_carryOut_93 ?_
      refine z_iconst h (nI 0) (by decide +kernel) dX9_carryOut_94 ?_
      refine z_iald h 29 0 (f := o 1) rfl rfl rfl (by omega) (by decide) dX9_carryOut_95 ?_
      refine z_top (nI (un (o 1 0))) (un_e (o 1 0)) ?_
      refine z_aload_n h 2 rfl dX9_carryOut_96 ?_
      refine z_iconst h (nI 1) (by decide +kernel) dX9_carryOut_97 ?_
      refine z_iald h 29 1 (f := o 1) rfl rfl rfl (by omega) (by decide) dX9_carryOut_98 ?_
      refine z_top (o 1 1) rfl ?_
      refine z_wV h (As := [.int (nI (un (o 1 0))), .int (o 1 1)]) (st := []) (ws2 := zCW (zy E) q a (mkG g (un (o 1 0)) (o 1 1)) t c o n S) (r := none) 2 (l_now (c_X5_makeBlocks (fun i => q (1 + i)) g (un (o 1 0)) (o 1 1) (by omega))) egX9_carryOut_X5_makeBlocks (q0 := 1) (ci := 4) (by decide +kernel) rfl rfl rfl ⟨by decide, by decide⟩ (Nat.le_of_ble_eq_true rfl) rfl rfl dX9_carryOut_99 ?_ hkR
      refine z_goto h 216 dX9_carryOut_102 (by decide) ?_
      refine z_iconst h (nI 1) (by decide +kernel) dX9_carryOut_216 ?_
      exact z_zret h hf rfl (by decide +kernel) (by rw [if_pos c_16]) (by rw [if_pos c_16] <;> rfl) dX9_carryOut_217
    · refine z_iconst h (nI 0) (by decide +kernel) dX9_carryOut_19 ?_
      exact z_zret h hf rfl (by decide +kernel) (by rw [if_neg c_16]) (by rw [if_neg c_16] <;> rfl) dX9_carryOut_20

set_option maxHeartbeats 4000000 in
set_option maxRecDepth 100000 in
/-- carryOut 2 -/
theorem c_X9_carryOut_2 {l : Launch} {y : zY} {D : va_G} (q : Nat → Nat) (a : Nat → Nat → Nat) (g t c o n : Nat → Nat → Int32) (S : Nat → Nat → Nat → Int32) (hg : okH g) (hgt : okT g) : zM l y D yX9_carryOut eCO 5 119 [.ref (q 0), .ref (y.2 2), .ref (q 29)] (zCW y q a g t c o n S) (zCW y q a (if stC g (un (o 1 0)) (un (o 1 1)) = 0 then pbG g (un (o 1 0)) (un (o 1 1)) else g) t c o n S) (some (.int (if stC g (un (o 1 0)) (un (o 1 1)) = 0 then nI 1 else nI 0))) := by
  refine z_start (own := RX9) (cc := cX9_carryOut) (maxL := 3) (ret := (some .boolean)) rfl (by decide +kernel) rfl (Nat.le_of_ble_eq_true rfl) (zCW_fst _ _ _ _ _ _ _ _ _ _ _ _ _ _ _) ?_
  intro E hEl hEy hED h hf
  subst hEl hEy hED
  have hkR : 0 ≤ E.2.2.2.2.2.1.cells ∧ 0 ≤ E.2.2.2.2.2.1.slots := ⟨Nat.zero_le _, Nat.zero_le _⟩
  refine z_cast (lv := [(0, .ref (q 0)), (1, .ref ((zy E).2 2)), (2, .ref (q 29))]) (ws := (zCW (zy E) q a g t c o n S)) (st := []) ?_ rfl rfl rfl
  refine z_aload_n h 1 rfl dX9_carryOut_0 ?_
  refine z_ifnR h dX9_carryOut_1 ?_
  refine z_aload_n h 2 rfl dX9_carryOut_4 ?_
  refine z_alen h 29 0 (nI 4) rfl rfl rfl dX9_carryOut_5 ?_
  refine z_iconst h (nI 4) (by decide +kernel) dX9_carryOut_6 ?_
  refine z_icmp_lt h 19 dX9_carryOut_7 (by decide) (fun c_7 => ?_) (fun c_7 => ?_)
  · exact absurd c_7 (by decide +kernel)
  · refine z_aload_n h 0 rfl dX9_carryOut_10 ?_
    refine z_aload_n h 1 rfl dX9_carryOut_11 ?_
    refine z_aload_n h 2 rfl dX9_carryOut_12 ?_
    refine z_wV h (As := [.ref ((zy E).2 2), .ref (q 29)]) (st := []) (ws2 := zCW (zy E) q a g t c o n S) (r := some (.int (stC g (un (o 1 0)) (un (o 1 1))))) 2 (c_X9_orderRefusal_2 q a g t c o n S hgt) egX9_carryOut_X9_orderRefusal (q0 := 0) (ci := 7) (by decide +kernel) rfl rfl rfl ⟨by decide, by decide⟩ (Nat.le_of_ble_eq_true rfl) rfl rfl dX9_carryOut_13 ?_ hkR
    refine z_if_eq h 21 dX9_carryOut_16 (by decide) (fun c_16 => ?_) (fun c_16 => ?_)
    · have hc9 := stC_ok hg (un_lt _) (un_lt _) c_16
      have hlt := hc9.2.2.2
      refine z_gets h hzS (List.mem_of_getElem? (i := 1) (by decide +kernel)) dX9_carryOut_21 ?_
      refine z_aload_n h 1 rfl dX9_carryOut_24 ?_
      refine z_ord h (v := nI 2) (hzWo (w := 2) (by omega)) (hzOr (w := 2) (by omega)) oX9_carryOut ⟨by decide, Nat.le_of_ble_eq_true rfl⟩ dX9_carryOut_25 ?_
      refine z_ti h hzSt 2 rfl (by decide) (by decide) (v := .int (nI 3)) (by decide +kernel) dX9_carryOut_28 ?_
      refine z_tblIn h (off := 76) 105 dX9_carryOut_29 (by decide +kernel) (by decide +kernel) (by decide +kernel) (by decide) ?_
      refine z_aload_n h 0 rfl dX9_carryOut_105 ?_
      refine z_get h 0 7 0 (v := .ref (q 1)) rfl rfl iX9_carryOut_X9 (by decide) (List.mem_of_getElem? (i := 2) (by decide +kernel)) rfl rfl dX9_carryOut_106 ?_
      refine z_aload_n h 2 rfl dX9_carryOut_109 ?_
      refine z_iconst h (nI 0) (by decide +kernel) dX9_carryOut_110 ?_
      refine z_iald h 29 0 (f := o 1) rfl rfl rfl (by omega) (by decide) dX9_carryOut_111 ?_
      refine z_top (nI (un (o 1 0))) (un_e (o 1 0)) ?_
      refine z_aload_n h 2 rfl dX9_carryOut_112 ?_
      refine z_iconst h (nI 1) (by decide +kernel) dX9_carryOut_113 ?_
      refine z_iald h 29 1 (f := o 1) rfl rfl rfl (by omega) (by decide) dX9_carryOut_114 ?_
      refine z_top (nI (un (o 1 1))) (un_e (o 1 1)) ?_
      refine z_wV h (As := [.int (nI (un (o 1 0))), .int (nI (un (o 1 1)))]) (st := []) (ws2 := zCW (zy E) q a (pbG g (un (o 1 0)) (un (o 1 1))) t c o n S) (r := none) 2 (l_now (c_X5_putBlock (fun i => q (1 + i)) g (un (o 1 0)) (un (o 1 1)) (by omega) (by omega) hlt hg)) egX9_carryOut_X5_putBlock (q0 := 1) (ci := 4) (by decide +kernel) rfl rfl rfl ⟨by decide, by decide⟩ (Nat.le_of_ble_eq_true rfl) rfl rfl dX9_carryOut_115 ?_ hkR
      refine z_goto h 216 dX9_carryOut_118 (by decide) ?_
      refine z_iconst h (nI 1) (by decide +kernel) dX9_carryOut_216 ?_
      exact z_zret h hf rfl (by decide +kernel) (by rw [if_pos c_16]) (by rw [if_pos c_16] <;> rfl) dX9_carryOut_217
    · refine z_iconst h (nI 0) (by decide +kernel) dX9_carryOut_19 ?_
      exact z_zret h hf rfl (by decide +kernel) (by rw [if_neg c_16]) (by rw [if_neg c_16] <;> rfl) dX9_carryOut_20

theorem iX9_carryOut_X5 : ∀ w ∈ u_ws RX5 TX5 10, w ∈ eCO := by decide +kernel
set_option maxHeartbeats 4000000 in
set_option maxRecDepth 100000 in
/-- carryOut 3 -/
theorem c_X9_carryOut_3 {l : Launch} {y : zY} {D : va_G} (q : Nat → Nat) (a : Nat → Nat → Nat) (g t c o n : Nat → Nat → Int32) (S : Nat → Nat → Nat → Int32) (hg : okH g) (hgt : okT g) : zM l y D yX9_carryOut eCO 5 119 [.ref (q 0), .ref (y.2 3), .ref (q 29)] (zCW y q a g t c o n S) (zCW y q a (if toC g (o 1 0) = 0 then taG g (o 1 0) else g) t c o n S) (some (.int (if toC g (o 1 0) = 0 then nI 1 else nI 0))) := by
  refine z_start (own := RX9) (cc := cX9_carryOut) (maxL := 3) (ret := (some .boolean)) rfl (by decide +kernel) rfl (Nat.le_of_ble_eq_true rfl) (zCW_fst _ _ _ _ _ _ _ _ _ _ _ _ _ _ _) ?_
  intro E hEl hEy hED h hf
  subst hEl hEy hED
  have hkR : 0 ≤ E.2.2.2.2.2.1.cells ∧ 0 ≤ E.2.2.2.2.2.1.slots := ⟨Nat.zero_le _, Nat.zero_le _⟩
  refine z_cast (lv := [(0, .ref (q 0)), (1, .ref ((zy E).2 3)), (2, .ref (q 29))]) (ws := (zCW (zy E) q a g t c o n S)) (st := []) ?_ rfl rfl rfl
  refine z_aload_n h 1 rfl dX9_carryOut_0 ?_
  refine z_ifnR h dX9_carryOut_1 ?_
  refine z_aload_n h 2 rfl dX9_carryOut_4 ?_
  refine z_alen h 29 0 (nI 4) rfl rfl rfl dX9_carryOut_5 ?_
  refine z_iconst h (nI 4) (by decide +kernel) dX9_carryOut_6 ?_
  refine z_icmp_lt h 19 dX9_carryOut_7 (by decide) (fun c_7 => ?_) (fun c_7 => ?_)
  · exact absurd c_7 (by decide +kernel)
  · refine z_aload_n h 0 rfl dX9_carryOut_10 ?_
    refine z_aload_n h 1 rfl dX9_carryOut_11 ?_
    refine z_aload_n h 2 rfl dX9_carryOut_12 ?_
    refine z_wV h (As := [.ref ((zy E).2 3), .ref (q 29)]) (st := []) (ws2 := zCW (zy E) q a g t c o n S) (r := some (.int (toC g (o 1 0)))) 2 (c_X9_orderRefusal_3 q a g t c o n S hgt) egX9_carryOut_X9_orderRefusal (q0 := 0) (ci := 7) (by decide +kernel) rfl rfl rfl ⟨by decide, by decide⟩ (Nat.le_of_ble_eq_true rfl) rfl rfl dX9_carryOut_13 ?_ hkR
    refine z_if_eq h 21 dX9_carryOut_16 (by decide) (fun c_16 => ?_) (fun c_16 => ?_)
    · have hc9 := toC_ok hgt c_16
      have hgt5 : g 0 6 = nI (zt g) ∧ zt g < 5 := ⟨hgt.1, hc9.2⟩
      refine z_gets h hzS (List.mem_of_getElem? (i := 1) (by decide +kernel)) dX9_carryOut_21 ?_
      refine z_aload_n h 1 rfl dX9_carryOut_24 ?_
      refine z_ord h (v := nI 3) (hzWo (w := 3) (by omega)) (hzOr (w := 3) (by omega)) oX9_carryOut ⟨by decide, Nat.le_of_ble_eq_true rfl⟩ dX9_carryOut_25 ?_
      refine z_ti h hzSt 3 rfl (by decide) (by decide) (v := .int (nI 4)) (by decide +kernel) dX9_carryOut_28 ?_
      refine z_tblIn h (off := 92) 121 dX9_carryOut_29 (by decide +kernel) (by decide +kernel) (by decide +kernel) (by decide) ?_
      refine z_aload_n h 0 rfl dX9_carryOut_121 ?_
      refine z_get h 0 7 0 (v := .ref (q 1)) rfl rfl iX9_carryOut_X9 (by decide) (List.mem_of_getElem? (i := 2) (by decide +kernel)) rfl rfl dX9_carryOut_122 ?_
      refine z_get h 1 4 8 (v := .ref (q 11)) rfl rfl iX9_carryOut_X5 (by decide) (List.mem_of_getElem? (i := 3) (by decide +kernel)) rfl rfl dX9_carryOut_125 ?_
      refine z_aload_n h 2 rfl dX9_carryOut_128 ?_
      refine z_iconst h (nI 0) (by decide +kernel) dX9_carryOut_129 ?_
      refine z_iald h 29 0 (f := o 1) rfl rfl rfl (by omega) (by decide) dX9_carryOut_130 ?_
      refine z_top (o 1 0) rfl ?_
      refine z_wV h (As := [.int (o 1 0)]) (st := []) (ws2 := zCW (zy E) q a (taG g (o 1 0)) t c o n S) (r := none) 1 (l_nto (c_X6_add (fun i => q (11 + i)) g (o 1 0) hgt5) rfl) egX9_carryOut_X6_add (q0 := 11) (ci := 5) (by decide +kernel) rfl rfl rfl ⟨by decide, by decide⟩ (Nat.le_of_ble_eq_true rfl) rfl rfl dX9_carryOut_131 ?_ hkR
      refine z_goto h 216 dX9_carryOut_134 (by decide) ?_
      refine z_iconst h (nI 1) (by decide +kernel) dX9_carryOut_216 ?_
      exact z_zret h hf rfl (by decide +kernel) (by rw [if_pos c_16]) (by rw [if_pos c_16] <;> rfl) dX9_carryOut_217
    · refine z_iconst h (nI 0) (by decide +kernel) dX9_carryOut_19 ?_
      exact z_zret h hf rfl (by decide +kernel) (by rw [if_neg c_16]) (by rw [if_neg c_16] <;> rfl) dX9_carryOut_20

set_option maxHeartbeats 4000000 in
set_option maxRecDepth 100000 in
/-- carryOut 4 -/
theorem c_X9_carryOut_4 {l : Launch} {y : zY} {D : va_G} (q : Nat → Nat) (a : Nat → Nat → Nat) (g t c o n : Nat → Nat → Int32) (S : Nat → Nat → Nat → Int32) (hg : okH g) (hgt : okT g) : zM l y D yX9_carryOut eCO 5 119 [.ref (q 0), .ref (y.2 4), .ref (q 29)] (zCW y q a g t c o n S) (zCW y q a (if crC g (un (o 1 0)) (un (o 1 1)) (un (o 1 2)) (o 1 3) = 0 then coG g (un (o 1 0)) (un (o 1 1)) (un (o 1 2)) (o 1 3) else g) t c o n S) (some (.int (if crC g (un (o 1 0)) (un (o 1 1)) (un (o 1 2)) (o 1 3) = 0 then nI 1 else nI 0))) := by
  refine z_start (own := RX9) (cc := cX9_carryOut) (maxL := 3) (ret := (some .boolean)) rfl (by decide +kernel) rfl (Nat.le_of_ble_eq_true rfl) (zCW_fst _ _ _ _ _ _ _ _ _ _ _ _ _ _ _) ?_
  intro E hEl hEy hED h hf
  subst hEl hEy hED
  have hkR : 0 ≤ E.2.2.2.2.2.1.cells ∧ 0 ≤ E.2.2.2.2.2.1.slots := ⟨Nat.zero_le _, Nat.zero_le _⟩
  refine z_cast (lv := [(0, .ref (q 0)), (1, .ref ((zy E).2 4)), (2, .ref (q 29))]) (ws := (zCW (zy E) q a g t c o n S)) (st := []) ?_ rfl rfl rfl
  refine z_aload_n h 1 rfl dX9_carryOut_0 ?_
  refine z_ifnR h dX9_carryOut_1 ?_
  refine z_aload_n h 2 rfl dX9_carryOut_4 ?_
  refine z_alen h 29 0 (nI 4) rfl rfl rfl dX9_carryOut_5 ?_
  refine z_iconst h (nI 4) (by decide +kernel) dX9_carryOut_6 ?_
  refine z_icmp_lt h 19 dX9_carryOut_7 (by decide) (fun c_7 => ?_) (fun c_7 => ?_)
  · exact absurd c_7 (by decide +kernel)
  · refine z_aload_n h 0 rfl dX9_carryOut_10 ?_
    refine z_aload_n h 1 rfl dX9_carryOut_11 ?_
    refine z_aload_n h 2 rfl dX9_carryOut_12 ?_
    refine z_wV h (As := [.ref ((zy E).2 4), .ref (q 29)]) (st := []) (ws2 := zCW (zy E) q a g t c o n S) (r := some (.int (crC g (un (o 1 0)) (un (o 1 1)) (un (o 1 2)) (o 1 3)))) 2 (c_X9_orderRefusal_4 q a g t c o n S hgt) egX9_carryOut_X9_orderRefusal (q0 := 0) (ci := 7) (by decide +kernel) rfl rfl rfl ⟨by decide, by decide⟩ (Nat.le_of_ble_eq_true rfl) rfl rfl dX9_carryOut_13 ?_ hkR
    refine z_if_eq h 21 dX9_carryOut_16 (by decide) (fun c_16 => ?_) (fun c_16 => ?_)
    · have hc9 := crC_ok hgt (un_lt _) (un_lt _) (un_lt _) c_16
      have hz9 := hgt.2
      refine z_gets h hzS (List.mem_of_getElem? (i := 1) (by decide +kernel)) dX9_carryOut_21 ?_
      refine z_aload_n h 1 rfl dX9_carryOut_24 ?_
      refine z_ord h (v := nI 4) (hzWo (w := 4) (by omega)) (hzOr (w := 4) (by omega)) oX9_carryOut ⟨by decide, Nat.le_of_ble_eq_true rfl⟩ dX9_carryOut_25 ?_
      refine z_ti h hzSt 4 rfl (by decide) (by decide) (v := .int (nI 5)) (by decide +kernel) dX9_carryOut_28 ?_
      refine z_tblIn h (off := 108) 137 dX9_carryOut_29 (by decide +kernel) (by decide +kernel) (by decide +kernel) (by decide) ?_
      refine z_aload_n h 0 rfl dX9_carryOut_137 ?_
      refine z_get h 0 7 0 (v := .ref (q 1)) rfl rfl iX9_carryOut_X9 (by decide) (List.mem_of_getElem? (i := 2) (by decide +kernel)) rfl rfl dX9_carryOut_138 ?_
      refine z_aload_n h 2 rfl dX9_carryOut_141 ?_
      refine z_iconst h (nI 0) (by decide +kernel) dX9_carryOut_142 ?_
      refine z_iald h 29 0 (f := o 1) rfl rfl rfl (by omega) (by decide) dX9_carryOut_143 ?_
      refine z_top (nI (un (o 1 0))) (un_e (o 1 0)) ?_
      refine z_aload_n h 2 rfl dX9_carryOut_144 ?_
      refine z_iconst h (nI 1) (by decide +kernel) dX9_carryOut_145 ?_
      refine z_iald h 29 1 (f := o 1) rfl rfl rfl (by omega) (by decide) dX9_carryOut_146 ?_
      refine z_top (nI (un (o 1 1))) (un_e (o 1 1)) ?_
      refine z_aload_n h 2 rfl dX9_carryOut_147 ?_
      refine z_iconst h (nI 2) (by decide +kernel) dX9_carryOut_148 ?_
      refine z_iald h 29 2 (f := o 1) rfl rfl rfl (by omega) (by decide) dX9_carryOut_149 ?_
      refine z_top (nI (un (o 1 2))) (un_e (o 1 2)) ?_
      refine z_aload_n h 2 rfl dX9_carryOut_150 ?_
      refine z_iconst h (nI 3) (by decide +kernel) dX9_carryOut_151 ?_
      refine z_iald h 29 3 (f := o 1) rfl rfl rfl (by omega) (by decide) dX9_carryOut_152 ?_
      refine z_top (o 1 3) rfl ?_
      refine z_wV h (As := [.int (nI (un (o 1 0))), .int (nI (un (o 1 1))), .int (nI (un (o 1 2))), .int (o 1 3)]) (st := []) (ws2 := zCW (zy E) q a (coG g (un (o 1 0)) (un (o 1 1)) (un (o 1 2)) (o 1 3)) t c o n S) (r := some (.int (g 7 ((un (o 1 1)) * 6 + (un (o 1 2))) - (o 1 3)))) 4 (l_now (c_X5_cutOff (fun i => q (1 + i)) g (un (o 1 0)) (un (o 1 1)) (un (o 1 2)) (o 1 3) (by omega) (by omega) (by omega) hg)) egX9_carryOut_X5_cutOff (q0 := 1) (ci := 4) (by decide +kernel) rfl rfl rfl ⟨by decide, by decide⟩ (Nat.le_of_ble_eq_true rfl) rfl rfl dX9_carryOut_153 ?_ hkR
      refine z_pop h dX9_carryOut_156 rfl ?_
      refine z_goto h 216 dX9_carryOut_157 (by decide) ?_
      refine z_iconst h (nI 1) (by decide +kernel) dX9_carryOut_216 ?_
      exact z_zret h hf rfl (by decide +kernel) (by rw [if_pos c_16]) (by rw [if_pos c_16] <;> rfl) dX9_carryOut_217
    · refine z_iconst h (nI 0) (by decide +kernel) dX9_carryOut_19 ?_
      exact z_zret h hf rfl (by decide +kernel) (by rw [if_neg c_16]) (by rw [if_neg c_16] <;> rfl) dX9_carryOut_20

theorem iX9_carryOut_X4 : ∀ w ∈ u_ws RX4 TX4 7, w ∈ eCO := by decide +kernel
set_option maxHeartbeats 4000000 in
set_option maxRecDepth 100000 in
/-- carryOut 5 -/
theorem c_X9_carryOut_5 {l : Launch} {y : zY} {D : va_G} (q : Nat → Nat) (a : Nat → Nat → Nat) (g t c o n : Nat → Nat → Int32) (S : Nat → Nat → Nat → Int32) (hg : okH g) (hgt : okT g) : zM l y D yX9_carryOut eCO 5 119 [.ref (q 0), .ref (y.2 5), .ref (q 29)] (zCW y q a g t c o n S) (zCW y q a (if siC (o 1 0) = 0 then va_up g 3 (upd (g 3) (un (o 1 0)) (nI 1)) else g) t c o n S) (some (.int (if siC (o 1 0) = 0 then nI 1 else nI 0))) := by
  refine z_start (own := RX9) (cc := cX9_carryOut) (maxL := 3) (ret := (some .boolean)) rfl (by decide +kernel) rfl (Nat.le_of_ble_eq_true rfl) (zCW_fst _ _ _ _ _ _ _ _ _ _ _ _ _ _ _) ?_
  intro E hEl hEy hED h hf
  subst hEl hEy hED
  have hkR : 0 ≤ E.2.2.2.2.2.1.cells ∧ 0 ≤ E.2.2.2.2.2.1.slots := ⟨Nat.zero_le _, Nat.zero_le _⟩
  refine z_cast (lv := [(0, .ref (q 0)), (1, .ref ((zy E).2 5)), (2, .ref (q 29))]) (ws := (zCW (zy E) q a g t c o n S)) (st := []) ?_ rfl rfl rfl
  refine z_aload_n h 1 rfl dX9_carryOut_0 ?_
  refine z_ifnR h dX9_carryOut_1 ?_
  refine z_aload_n h 2 rfl dX9_carryOut_4 ?_
  refine z_alen h 29 0 (nI 4) rfl rfl rfl dX9_carryOut_5 ?_
  refine z_iconst h (nI 4) (by decide +kernel) dX9_carryOut_6 ?_
  refine z_icmp_lt h 19 dX9_carryOut_7 (by decide) (fun c_7 => ?_) (fun c_7 => ?_)
  · exact absurd c_7 (by decide +kernel)
  · refine z_aload_n h 0 rfl dX9_carryOut_10 ?_
    refine z_aload_n h 1 rfl dX9_carryOut_11 ?_
    refine z_aload_n h 2 rfl dX9_carryOut_12 ?_
    refine z_wV h (As := [.ref ((zy E).2 5), .ref (q 29)]) (st := []) (ws2 := zCW (zy E) q a g t c o n S) (r := some (.int (siC (o 1 0)))) 2 (c_X9_orderRefusal_5 q a g t c o n S hgt) egX9_carryOut_X9_orderRefusal (q0 := 0) (ci := 7) (by decide +kernel) rfl rfl rfl ⟨by decide, by decide⟩ (Nat.le_of_ble_eq_true rfl) rfl rfl dX9_carryOut_13 ?_ hkR
    refine z_if_eq h 21 dX9_carryOut_16 (by decide) (fun c_16 => ?_) (fun c_16 => ?_)
    · have hc9 := siC_ok c_16
      refine z_gets h hzS (List.mem_of_getElem? (i := 1) (by decide +kernel)) dX9_carryOut_21 ?_
      refine z_aload_n h 1 rfl dX9_carryOut_24 ?_
      refine z_ord h (v := nI 5) (hzWo (w := 5) (by omega)) (hzOr (w := 5) (by omega)) oX9_carryOut ⟨by decide, Nat.le_of_ble_eq_true rfl⟩ dX9_carryOut_25 ?_
      refine z_ti h hzSt 5 rfl (by decide) (by decide) (v := .int (nI 6)) (by decide +kernel) dX9_carryOut_28 ?_
      refine z_tblIn h (off := 131) 160 dX9_carryOut_29 (by decide +kernel) (by decide +kernel) (by decide +kernel) (by decide) ?_
      refine z_aload_n h 0 rfl dX9_carryOut_160 ?_
      refine z_get h 0 7 0 (v := .ref (q 1)) rfl rfl iX9_carryOut_X9 (by decide) (List.mem_of_getElem? (i := 2) (by decide +kernel)) rfl rfl dX9_carryOut_161 ?_
      refine z_get h 1 4 7 (v := .ref (q 3)) rfl rfl iX9_carryOut_X5 (by decide) (List.mem_of_getElem? (i := 4) (by decide +kernel)) rfl rfl dX9_carryOut_164 ?_
      refine z_get h 3 3 1 (v := .ref (q 5)) rfl rfl iX9_carryOut_X4 (by decide) (List.mem_of_getElem? (i := 5) (by decide +kernel)) rfl rfl dX9_carryOut_167 ?_
      refine z_aload_n h 2 rfl dX9_carryOut_170 ?_
      refine z_iconst h (nI 0) (by decide +kernel) dX9_carryOut_171 ?_
      refine z_iald h 29 0 (f := o 1) rfl rfl rfl (by omega) (by decide) dX9_carryOut_172 ?_
      refine z_top (nI (un (o 1 0))) (un_e (o 1 0)) ?_
      refine z_iconst h (nI 1) (by decide +kernel) dX9_carryOut_173 ?_
      refine z_iast h 5 (un (o 1 0)) (nI 1) (ws' := zCW (zy E) q a (va_up g 3 (upd (g 3) (un (o 1 0)) (nI 1))) t c o n S) rfl rfl rfl rfl (by omega) (by decide) rfl dX9_carryOut_174 ?_
      refine z_goto h 216 dX9_carryOut_175 (by decide) ?_
      refine z_iconst h (nI 1) (by decide +kernel) dX9_carryOut_216 ?_
      exact z_zret h hf rfl (by decide +kernel) (by rw [if_pos c_16]) (by rw [if_pos c_16] <;> rfl) dX9_carryOut_217
    · refine z_iconst h (nI 0) (by decide +kernel) dX9_carryOut_19 ?_
      exact z_zret h hf rfl (by decide +kernel) (by rw [if_neg c_16]) (by rw [if_neg c_16] <;> rfl) dX9_carryOut_20

set_option maxHeartbeats 4000000 in
set_option maxRecDepth 100000 in
/-- carryOut 6 -/
theorem c_X9_carryOut_6 {l : Launch} {y : zY} {D : va_G} (q : Nat → Nat) (a : Nat → Nat → Nat) (g t c o n : Nat → Nat → Int32) (S : Nat → Nat → Nat → Int32) (hg : okH g) (hgt : okT g) : zM l y D yX9_carryOut eCO 5 119 [.ref (q 0), .ref (y.2 6), .ref (q 29)] (zCW y q a g t c o n S) (zCW y q a (if hoC (o 1 0) = 0 then phG g (nI 0) (un (o 1 0)) else g) t c o n S) (some (.int (if hoC (o 1 0) = 0 then nI 1 else nI 0))) := by
  refine z_start (own := RX9) (cc := cX9_carryOut) (maxL := 3) (ret := (some .boolean)) rfl (by decide +kernel) rfl (Nat.le_of_ble_eq_true rfl) (zCW_fst _ _ _ _ _ _ _ _ _ _ _ _ _ _ _) ?_
  intro E hEl hEy hED h hf
  subst hEl hEy hED
  have hkR : 0 ≤ E.2.2.2.2.2.1.cells ∧ 0 ≤ E.2.2.2.2.2.1.slots := ⟨Nat.zero_le _, Nat.zero_le _⟩
  refine z_cast (lv := [(0, .ref (q 0)), (1, .ref ((zy E).2 6)), (2, .ref (q 29))]) (ws := (zCW (zy E) q a g t c o n S)) (st := []) ?_ rfl rfl rfl
  refine z_aload_n h 1 rfl dX9_carryOut_0 ?_
  refine z_ifnR h dX9_carryOut_1 ?_
  refine z_aload_n h 2 rfl dX9_carryOut_4 ?_
  refine z_alen h 29 0 (nI 4) rfl rfl rfl dX9_carryOut_5 ?_
  refine z_iconst h (nI 4) (by decide +kernel) dX9_carryOut_6 ?_
  refine z_icmp_lt h 19 dX9_carryOut_7 (by decide) (fun c_7 => ?_) (fun c_7 => ?_)
  · exact absurd c_7 (by decide +kernel)
  · refine z_aload_n h 0 rfl dX9_carryOut_10 ?_
    refine z_aload_n h 1 rfl dX9_carryOut_11 ?_
    refine z_aload_n h 2 rfl dX9_carryOut_12 ?_
    refine z_wV h (As := [.ref ((zy E).2 6), .ref (q 29)]) (st := []) (ws2 := zCW (zy E) q a g t c o n S) (r := some (.int (hoC (o 1 0)))) 2 (c_X9_orderRefusal_6 q a g t c o n S hgt) egX9_carryOut_X9_orderRefusal (q0 := 0) (ci := 7) (by decide +kernel) rfl rfl rfl ⟨by decide, by decide⟩ (Nat.le_of_ble_eq_true rfl) rfl rfl dX9_carryOut_13 ?_ hkR
    refine z_if_eq h 21 dX9_carryOut_16 (by decide) (fun c_16 => ?_) (fun c_16 => ?_)
    · have hc9 := hoC_ok c_16
      refine z_gets h hzS (List.mem_of_getElem? (i := 1) (by decide +kernel)) dX9_carryOut_21 ?_
      refine z_aload_n h 1 rfl dX9_carryOut_24 ?_
      refine z_ord h (v := nI 6) (hzWo (w := 6) (by omega)) (hzOr (w := 6) (by omega)) oX9_carryOut ⟨by decide, Nat.le_of_ble_eq_true rfl⟩ dX9_carryOut_25 ?_
      refine z_ti h hzSt 6 rfl (by decide) (by decide) (v := .int (nI 7)) (by decide +kernel) dX9_carryOut_28 ?_
      refine z_tblIn h (off := 149) 178 dX9_carryOut_29 (by decide +kernel) (by decide +kernel) (by decide +kernel) (by decide) ?_
      refine z_aload_n h 0 rfl dX9_carryOut_178 ?_
      refine z_get h 0 7 0 (v := .ref (q 1)) rfl rfl iX9_carryOut_X9 (by decide) (List.mem_of_getElem? (i := 2) (by decide +kernel)) rfl rfl dX9_carryOut_179 ?_
      refine z_aload_n h 2 rfl dX9_carryOut_182 ?_
      refine z_iconst h (nI 0) (by decide +kernel) dX9_carryOut_183 ?_
      refine z_iald h 29 0 (f := o 1) rfl rfl rfl (by omega) (by decide) dX9_carryOut_184 ?_
      refine z_top (nI (un (o 1 0))) (un_e (o 1 0)) ?_
      refine z_iconst h (nI 0) (by decide +kernel) dX9_carryOut_185 ?_
      refine z_wV h (As := [.int (nI (un (o 1 0))), .int (nI 0)]) (st := []) (ws2 := zCW (zy E) q a (phG g (nI 0) (un (o 1 0))) t c o n S) (r := some (.int (phS g (nI 0) (un (o 1 0))))) 2 (l_now (c_X5_passHours (fun i => q (1 + i)) g (un (o 1 0)) (nI 0) (by omega) hg hgt)) egX9_carryOut_X5_passHours (q0 := 1) (ci := 4) (by decide +kernel) rfl rfl rfl ⟨by decide, by decide⟩ (Nat.le_of_ble_eq_true rfl) rfl rfl dX9_carryOut_186 ?_ hkR
      refine z_pop h dX9_carryOut_189 rfl ?_
      refine z_goto h 216 dX9_carryOut_190 (by decide) ?_
      refine z_iconst h (nI 1) (by decide +kernel) dX9_carryOut_216 ?_
      exact z_zret h hf rfl (by decide +kernel) (by rw [if_pos c_16]) (by rw [if_pos c_16] <;> rfl) dX9_carryOut_217
    · refine z_iconst h (nI 0) (by decide +kernel) dX9_carryOut_19 ?_
      exact z_zret h hf rfl (by decide +kernel) (by rw [if_neg c_16]) (by rw [if_neg c_16] <;> rfl) dX9_carryOut_20

set_option maxHeartbeats 4000000 in
set_option maxRecDepth 100000 in
/-- carryOut 7 -/
theorem c_X9_carryOut_7 {l : Launch} {y : zY} {D : va_G} (q : Nat → Nat) (a : Nat → Nat → Nat) (g t c o n : Nat → Nat → Int32) (S : Nat → Nat → Nat → Int32) (hg : okH g) (hgt : okT g) : zM l y D yX9_carryOut eCO 5 119 [.ref (q 0), .ref (y.2 7), .ref (q 29)] (zCW y q a g t c o n S) (zCW y q a (if hoC (o 1 0) = 0 then phG g (nI 1) (un (o 1 0)) else g) t c o n S) (some (.int (if hoC (o 1 0) = 0 then nI 1 else nI 0))) := by
  refine z_start (own := RX9) (cc := cX9_carryOut) (maxL := 3) (ret := (some .boolean)) rfl (by decide +kernel) rfl (Nat.le_of_ble_eq_true rfl) (zCW_fst _ _ _ _ _ _ _ _ _ _ _ _ _ _ _) ?_
  intro E hEl hEy hED h hf
  subst hEl hEy hED
  have hkR : 0 ≤ E.2.2.2.2.2.1.cells ∧ 0 ≤ E.2.2.2.2.2.1.slots := ⟨Nat.zero_le _, Nat.zero_le _⟩
  refine z_cast (lv := [(0, .ref (q 0)), (1, .ref ((zy E).2 7)), (2, .ref (q 29))]) (ws := (zCW (zy E) q a g t c o n S)) (st := []) ?_ rfl rfl rfl
  refine z_aload_n h 1 rfl dX9_carryOut_0 ?_
  refine z_ifnR h dX9_carryOut_1 ?_
  refine z_aload_n h 2 rfl dX9_carryOut_4 ?_
  refine z_alen h 29 0 (nI 4) rfl rfl rfl dX9_carryOut_5 ?_
  refine z_iconst h (nI 4) (by decide +kernel) dX9_carryOut_6 ?_
  refine z_icmp_lt h 19 dX9_carryOut_7 (by decide) (fun c_7 => ?_) (fun c_7 => ?_)
  · exact absurd c_7 (by decide +kernel)
  · refine z_aload_n h 0 rfl dX9_carryOut_10 ?_
    refine z_aload_n h 1 rfl dX9_carryOut_11 ?_
    refine z_aload_n h 2 rfl dX9_carryOut_12 ?_
    refine z_wV h (As := [.ref ((zy E).2 7), .ref (q 29)]) (st := []) (ws2 := zCW (zy E) q a g t c o n S) (r := some (.int (hoC (o 1 0)))) 2 (c_X9_orderRefusal_7 q a g t c o n S hgt) egX9_carryOut_X9_orderRefusal (q0 := 0) (ci := 7) (by decide +kernel) rfl rfl rfl ⟨by decide, by decide⟩ (Nat.le_of_ble_eq_true rfl) rfl rfl dX9_carryOut_13 ?_ hkR
    refine z_if_eq h 21 dX9_carryOut_16 (by decide) (fun c_16 => ?_) (fun c_16 => ?_)
    · have hc9 := hoC_ok c_16
      refine z_gets h hzS (List.mem_of_getElem? (i := 1) (by decide +kernel)) dX9_carryOut_21 ?_
      refine z_aload_n h 1 rfl dX9_carryOut_24 ?_
      refine z_ord h (v := nI 7) (hzWo (w := 7) (by omega)) (hzOr (w := 7) (by omega)) oX9_carryOut ⟨by decide, Nat.le_of_ble_eq_true rfl⟩ dX9_carryOut_25 ?_
      refine z_ti h hzSt 7 rfl (by decide) (by decide) (v := .int (nI 8)) (by decide +kernel) dX9_carryOut_28 ?_
      refine z_tblIn h (off := 164) 193 dX9_carryOut_29 (by decide +kernel) (by decide +kernel) (by decide +kernel) (by decide) ?_
      refine z_aload_n h 0 rfl dX9_carryOut_193 ?_
      refine z_get h 0 7 0 (v := .ref (q 1)) rfl rfl iX9_carryOut_X9 (by decide) (List.mem_of_getElem? (i := 2) (by decide +kernel)) rfl rfl dX9_carryOut_194 ?_
      refine z_aload_n h 2 rfl dX9_carryOut_197 ?_
      refine z_iconst h (nI 0) (by decide +kernel) dX9_carryOut_198 ?_
      refine z_iald h 29 0 (f := o 1) rfl rfl rfl (by omega) (by decide) dX9_carryOut_199 ?_
      refine z_top (nI (un (o 1 0))) (un_e (o 1 0)) ?_
      refine z_iconst h (nI 1) (by decide +kernel) dX9_carryOut_200 ?_
      refine z_wV h (As := [.int (nI (un (o 1 0))), .int (nI 1)]) (st := []) (ws2 := zCW (zy E) q a (phG g (nI 1) (un (o 1 0))) t c o n S) (r := some (.int (phS g (nI 1) (un (o 1 0))))) 2 (l_now (c_X5_passHours (fun i => q (1 + i)) g (un (o 1 0)) (nI 1) (by omega) hg hgt)) egX9_carryOut_X5_passHours (q0 := 1) (ci := 4) (by decide +kernel) rfl rfl rfl ⟨by decide, by decide⟩ (Nat.le_of_ble_eq_true rfl) rfl rfl dX9_carryOut_201 ?_ hkR
      refine z_pop h dX9_carryOut_204 rfl ?_
      refine z_goto h 216 dX9_carryOut_205 (by decide) ?_
      refine z_iconst h (nI 1) (by decide +kernel) dX9_carryOut_216 ?_
      exact z_zret h hf rfl (by decide +kernel) (by rw [if_pos c_16]) (by rw [if_pos c_16] <;> rfl) dX9_carryOut_217
    · refine z_iconst h (nI 0) (by decide +kernel) dX9_carryOut_19 ?_
      exact z_zret h hf rfl (by decide +kernel) (by rw [if_neg c_16]) (by rw [if_neg c_16] <;> rfl) dX9_carryOut_20

set_option maxHeartbeats 4000000 in
set_option maxRecDepth 100000 in
/-- carryOut 8 -/
theorem c_X9_carryOut_8 {l : Launch} {y : zY} {D : va_G} (q : Nat → Nat) (a : Nat → Nat → Nat) (g t c o n : Nat → Nat → Int32) (S : Nat → Nat → Nat → Int32) (hg : okH g) (hgt : okT g) : zM l y D yX9_carryOut eCO 5 119 [.ref (q 0), .ref (y.2 8), .ref (q 29)] (zCW y q a g t c o n S) (zCW y q a (obG g) t c o n S) (some (.int (nI 1))) := by
  refine z_start (own := RX9) (cc := cX9_carryOut) (maxL := 3) (ret := (some .boolean)) rfl (by decide +kernel) rfl (Nat.le_of_ble_eq_true rfl) (zCW_fst _ _ _ _ _ _ _ _ _ _ _ _ _ _ _) ?_
  intro E hEl hEy hED h hf
  subst hEl hEy hED
  have hkR : 0 ≤ E.2.2.2.2.2.1.cells ∧ 0 ≤ E.2.2.2.2.2.1.slots := ⟨Nat.zero_le _, Nat.zero_le _⟩
  refine z_cast (lv := [(0, .ref (q 0)), (1, .ref ((zy E).2 8)), (2, .ref (q 29))]) (ws := (zCW (zy E) q a g t c o n S)) (st := []) ?_ rfl rfl rfl
  refine z_aload_n h 1 rfl dX9_carryOut_0 ?_
  refine z_ifnR h dX9_carryOut_1 ?_
  refine z_aload_n h 2 rfl dX9_carryOut_4 ?_
  refine z_alen h 29 0 (nI 4) rfl rfl rfl dX9_carryOut_5 ?_
  refine z_iconst h (nI 4) (by decide +kernel) dX9_carryOut_6 ?_
  refine z_icmp_lt h 19 dX9_carryOut_7 (by decide) (fun c_7 => ?_) (fun c_7 => ?_)
  · exact absurd c_7 (by decide +kernel)
  · refine z_aload_n h 0 rfl dX9_carryOut_10 ?_
    refine z_aload_n h 1 rfl dX9_carryOut_11 ?_
    refine z_aload_n h 2 rfl dX9_carryOut_12 ?_
    refine z_wV h (As := [.ref ((zy E).2 8), .ref (q 29)]) (st := []) (ws2 := zCW (zy E) q a g t c o n S) (r := some (.int (nI 0))) 2 (c_X9_orderRefusal_8 q a g t c o n S hgt) egX9_carryOut_X9_orderRefusal (q0 := 0) (ci := 7) (by decide +kernel) rfl rfl rfl ⟨by decide, by decide⟩ (Nat.le_of_ble_eq_true rfl) rfl rfl dX9_carryOut_13 ?_ hkR
    refine z_if_eq h 21 dX9_carryOut_16 (by decide) (fun c_16 => ?_) (fun c_16 => ?_)
    · refine z_gets h hzS (List.mem_of_getElem? (i := 1) (by decide +kernel)) dX9_carryOut_21 ?_
      refine z_aload_n h 1 rfl dX9_carryOut_24 ?_
      refine z_ord h (v := nI 8) (hzWo (w := 8) (by omega)) (hzOr (w := 8) (by omega)) oX9_carryOut ⟨by decide, Nat.le_of_ble_eq_true rfl⟩ dX9_carryOut_25 ?_
      refine z_ti h hzSt 8 rfl (by decide) (by decide) (v := .int (nI 0)) (by decide +kernel) dX9_carryOut_28 ?_
      refine z_tblOut h 208 dX9_carryOut_29 (by decide +kernel) (by decide) ?_
      refine z_aload_n h 0 rfl dX9_carryOut_208 ?_
      refine z_get h 0 7 0 (v := .ref (q 1)) rfl rfl iX9_carryOut_X9 (by decide) (List.mem_of_getElem? (i := 2) (by decide +kernel)) rfl rfl dX9_carryOut_209 ?_
      refine z_wV h (As := []) (st := []) (ws2 := zCW (zy E) q a (obG g) t c o n S) (r := some (.int (obU g))) 0 (l_now (c_X5_putOffcutsBack (fun i => q (1 + i)) g)) egX9_carryOut_X5_putOffcutsBack (q0 := 1) (ci := 4) (by decide +kernel) rfl rfl rfl ⟨by decide, by decide⟩ (Nat.le_of_ble_eq_true rfl) rfl rfl dX9_carryOut_212 ?_ hkR
      refine z_pop h dX9_carryOut_215 rfl ?_
      refine z_iconst h (nI 1) (by decide +kernel) dX9_carryOut_216 ?_
      exact z_zret h hf rfl (by decide +kernel) rfl rfl dX9_carryOut_217
    · exact absurd (show nI 0 = 0 by decide +kernel) c_16

theorem orC_0 (g o : Nat → Nat → Int32) : orC g o 0 = srC g (o 1 0) := by
  unfold orC
  rw [if_pos rfl]
theorem coF_0 (g o : Nat → Nat → Int32) : coF g o 0 = tsG g (o 1 0) := by
  unfold coF
  rw [if_pos rfl]
theorem orC_1 (g o : Nat → Nat → Int32) : orC g o 1 = prC g (un (o 1 0)) (o 1 1) := by
  unfold orC
  rw [if_neg (show ¬ (1 = 0) by decide), if_pos rfl]
theorem coF_1 (g o : Nat → Nat → Int32) : coF g o 1 = mkG g (un (o 1 0)) (o 1 1) := by
  unfold coF
  rw [if_neg (show ¬ (1 = 0) by decide), if_pos rfl]
theorem orC_2 (g o : Nat → Nat → Int32) : orC g o 2 = stC g (un (o 1 0)) (un (o 1 1)) := by
  unfold orC
  rw [if_neg (show ¬ (2 = 0) by decide), if_neg (show ¬ (2 = 1) by decide), if_pos rfl]
theorem coF_2 (g o : Nat → Nat → Int32) : coF g o 2 = pbG g (un (o 1 0)) (un (o 1 1)) := by
  unfold coF
  rw [if_neg (show ¬ (2 = 0) by decide), if_neg (show ¬ (2 = 1) by decide), if_pos rfl]
theorem orC_3 (g o : Nat → Nat → Int32) : orC g o 3 = toC g (o 1 0) := by
  unfold orC
  rw [if_neg (show ¬ (3 = 0) by decide), if_neg (show ¬ (3 = 1) by decide), if_neg (show ¬ (3 = 2) by decide), if_pos rfl]
theorem coF_3 (g o : Nat → Nat → Int32) : coF g o 3 = taG g (o 1 0) := by
  unfold coF
  rw [if_neg (show ¬ (3 = 0) by decide), if_neg (show ¬ (3 = 1) by decide), if_neg (show ¬ (3 = 2) by decide), if_pos rfl]
theorem orC_4 (g o : Nat → Nat → Int32) : orC g o 4 = crC g (un (o 1 0)) (un (o 1 1)) (un (o 1 2)) (o 1 3) := by
  unfold orC
  rw [if_neg (show ¬ (4 = 0) by decide), if_neg (show ¬ (4 = 1) by decide), if_neg (show ¬ (4 = 2) by decide), if_neg (show ¬ (4 = 3) by decide), if_pos rfl]
theorem coF_4 (g o : Nat → Nat → Int32) : coF g o 4 = coG g (un (o 1 0)) (un (o 1 1)) (un (o 1 2)) (o 1 3) := by
  unfold coF
  rw [if_neg (show ¬ (4 = 0) by decide), if_neg (show ¬ (4 = 1) by decide), if_neg (show ¬ (4 = 2) by decide), if_neg (show ¬ (4 = 3) by decide), if_pos rfl]
theorem orC_5 (g o : Nat → Nat → Int32) : orC g o 5 = siC (o 1 0) := by
  unfold orC
  rw [if_neg (show ¬ (5 = 0) by decide), if_neg (show ¬ (5 = 1) by decide), if_neg (show ¬ (5 = 2) by decide), if_neg (show ¬ (5 = 3) by decide), if_neg (show ¬ (5 = 4) by decide), if_pos rfl]
theorem coF_5 (g o : Nat → Nat → Int32) : coF g o 5 = va_up g 3 (upd (g 3) (un (o 1 0)) (nI 1)) := by
  unfold coF
  rw [if_neg (show ¬ (5 = 0) by decide), if_neg (show ¬ (5 = 1) by decide), if_neg (show ¬ (5 = 2) by decide), if_neg (show ¬ (5 = 3) by decide), if_neg (show ¬ (5 = 4) by decide), if_pos rfl]
theorem orC_6 (g o : Nat → Nat → Int32) : orC g o 6 = hoC (o 1 0) := by
  unfold orC
  rw [if_neg (show ¬ (6 = 0) by decide), if_neg (show ¬ (6 = 1) by decide), if_neg (show ¬ (6 = 2) by decide), if_neg (show ¬ (6 = 3) by decide), if_neg (show ¬ (6 = 4) by decide), if_neg (show ¬ (6 = 5) by decide), if_pos rfl]
theorem coF_6 (g o : Nat → Nat → Int32) : coF g o 6 = phG g (nI 0) (un (o 1 0)) := by
  unfold coF
  rw [if_neg (show ¬ (6 = 0) by decide), if_neg (show ¬ (6 = 1) by decide), if_neg (show ¬ (6 = 2) by decide), if_neg (show ¬ (6 = 3) by decide), if_neg (show ¬ (6 = 4) by decide), if_neg (show ¬ (6 = 5) by decide), if_pos rfl]
theorem orC_7 (g o : Nat → Nat → Int32) : orC g o 7 = hoC (o 1 0) := by
  unfold orC
  rw [if_neg (show ¬ (7 = 0) by decide), if_neg (show ¬ (7 = 1) by decide), if_neg (show ¬ (7 = 2) by decide), if_neg (show ¬ (7 = 3) by decide), if_neg (show ¬ (7 = 4) by decide), if_neg (show ¬ (7 = 5) by decide), if_neg (show ¬ (7 = 6) by decide), if_pos rfl]
theorem coF_7 (g o : Nat → Nat → Int32) : coF g o 7 = phG g (nI 1) (un (o 1 0)) := by
  unfold coF
  rw [if_neg (show ¬ (7 = 0) by decide), if_neg (show ¬ (7 = 1) by decide), if_neg (show ¬ (7 = 2) by decide), if_neg (show ¬ (7 = 3) by decide), if_neg (show ¬ (7 = 4) by decide), if_neg (show ¬ (7 = 5) by decide), if_neg (show ¬ (7 = 6) by decide), if_pos rfl]
theorem orC_8 (g o : Nat → Nat → Int32) : orC g o 8 = nI 0 := by
  unfold orC
  rw [if_neg (show ¬ (8 = 0) by decide), if_neg (show ¬ (8 = 1) by decide), if_neg (show ¬ (8 = 2) by decide), if_neg (show ¬ (8 = 3) by decide), if_neg (show ¬ (8 = 4) by decide), if_neg (show ¬ (8 = 5) by decide), if_neg (show ¬ (8 = 6) by decide), if_neg (show ¬ (8 = 7) by decide)]
theorem coF_8 (g o : Nat → Nat → Int32) : coF g o 8 = obG g := by
  unfold coF
  rw [if_neg (show ¬ (8 = 0) by decide), if_neg (show ¬ (8 = 1) by decide), if_neg (show ¬ (8 = 2) by decide), if_neg (show ¬ (8 = 3) by decide), if_neg (show ¬ (8 = 4) by decide), if_neg (show ¬ (8 = 5) by decide), if_neg (show ¬ (8 = 6) by decide), if_neg (show ¬ (8 = 7) by decide)]
/-- carryOut, whatever the word -/
theorem c_X9_carryOut {l : Launch} {y : zY} {D : va_G} (q : Nat → Nat) (a : Nat → Nat → Nat) (g t c o n : Nat → Nat → Int32) (S : Nat → Nat → Nat → Int32) (hg : okH g) (hgt : okT g) : ∀ w, w < 9 → zM l y D yX9_carryOut eCO 5 119 [.ref (q 0), .ref (y.2 w), .ref (q 29)] (zCW y q a g t c o n S) (zCW y q a (if orC g o w = 0 then coF g o w else g) t c o n S) (some (.int (if orC g o w = 0 then nI 1 else nI 0))) :=
  w9 (by rw [orC_0, coF_0]; exact c_X9_carryOut_0 q a g t c o n S hg hgt) (by rw [orC_1, coF_1]; exact c_X9_carryOut_1 q a g t c o n S hg hgt) (by rw [orC_2, coF_2]; exact c_X9_carryOut_2 q a g t c o n S hg hgt) (by rw [orC_3, coF_3]; exact c_X9_carryOut_3 q a g t c o n S hg hgt) (by rw [orC_4, coF_4]; exact c_X9_carryOut_4 q a g t c o n S hg hgt) (by rw [orC_5, coF_5]; exact c_X9_carryOut_5 q a g t c o n S hg hgt) (by rw [orC_6, coF_6]; exact c_X9_carryOut_6 q a g t c o n S hg hgt) (by rw [orC_7, coF_7]; exact c_X9_carryOut_7 q a g t c o n S hg hgt) (by rw [orC_8, coF_8, if_pos (show nI 0 = 0 by decide +kernel), if_pos (show nI 0 = 0 by decide +kernel)]; exact c_X9_carryOut_8 q a g t c o n S hg hgt)
