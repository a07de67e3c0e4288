theorem nar_z {x : Int32} (h : x = nI 0 ∨ x = nI 1) : vp_nar .boolean x = x := by
  rcases h with rfl | rfl <;> decide +kernel
theorem hbl_01 (g : Nat → Nat → Int32) (x t : Int32) : hbl g x t = nI 0 ∨ hbl g x t = nI 1 := by
  unfold hbl
  split
  · exact Or.inl rfl
  · split
    · exact Or.inl rfl
    · exact Or.inr rfl
theorem isS_nat {x : Int32} (h : ¬ isS x = 0) : ∃ j, j < 8 ∧ x = nI j := by
  obtain ⟨h1, h2⟩ := wi_in h
  have h0 : ¬ x < 0 := h1
  obtain ⟨j, hj, rfl⟩ := nI_of h0
  rw [nI_ltI (by omega) hj] at h2
  exact ⟨j, by omega, rfl⟩
theorem chR_nat (ch sd : Nat → Int32) (b : Nat) : ∀ k, ¬ chR ch sd b k = (-1) → ∃ j, j < 8 ∧ chR ch sd b k = nI j
  | 0, h => absurd rfl h
  | k + 1, h => by
    unfold chR at h ⊢
    by_cases h1 : isS (ch (b * 3 + (2 - k))) = 0
    · rw [if_pos h1] at h ⊢
      exact chR_nat ch sd b k h
    · rw [if_neg h1] at h ⊢
      by_cases h2 : sd (ch (b * 3 + (2 - k))).toNatClampNeg = 0
      · rw [if_pos h2] at h ⊢
        exact chR_nat ch sd b k h
      · rw [if_neg h2]
        exact isS_nat h1
def vtI (V sd : Nat → Int32) (r : Nat) : Nat → Nat → Int32
  | 0 => V
  | i + 1 => upd (vtI V sd r i) (r * 8 + i) (if sd i = 0 then (-1) else nI 0)
def cbI (V ch sd : Nat → Int32) (r : Nat) : Nat → (Nat → Int32) × Int32
  | 0 => (vtI V sd r 8, nI 0)
  | b + 1 => if chR ch sd b 3 = (-1) then cbI V ch sd r b else (upd (cbI V ch sd r b).1 (r * 8 + (chR ch sd b 3).toNatClampNeg) ((cbI V ch sd r b).1 (r * 8 + (chR ch sd b 3).toNatClampNeg) + nI 1), (cbI V ch sd r b).2 + nI 1)
theorem cb_0 {V ch sd : Nat → Int32} {r b : Nat} (c : chR ch sd b 3 = (-1)) : cbI V ch sd r (b + 1) = cbI V ch sd r b := if_pos c
theorem cb_1 {V ch sd : Nat → Int32} {r b j : Nat} (c : ¬ chR ch sd b 3 = (-1)) (hj : (chR ch sd b 3).toNatClampNeg = j) : cbI V ch sd r (b + 1) = (upd (cbI V ch sd r b).1 (r * 8 + j) ((cbI V ch sd r b).1 (r * 8 + j) + nI 1), (cbI V ch sd r b).2 + nI 1) := by
  rw [← hj]
  exact if_neg c
def cvC9 (g c : Nat → Nat → Int32) (r : Nat) : Nat → Nat → Int32 := va_up (va_up c 2 (cbI (c 2) (g 12) (c 1) r (zb g)).1) 0 (upd (c 0) 2 (cbI (c 2) (g 12) (c 1) r (zb g)).2)
def wnR (V sd : Nat → Int32) (r : Nat) (n : Int32) : Nat → Nat → Int32 → Int32 → Int32
  | 0, _, x, z => if x = nI 1 then z else (-1)
  | k + 1, i, x, z => if sd i = 0 then wnR V sd r n k (i + 1) x z else if nI 2 * V (r * 8 + i) ≤ n then wnR V sd r n k (i + 1) (x + nI 1) (nI i) else nI i
def wnC (c : Nat → Nat → Int32) (r : Nat) : Int32 := wnR (c 2) (c 1) r (c 0 2) 8 0 (nI 0) (-1)
theorem wn_step {V sd : Nat → Int32} {r i k : Nat} {n x z R : Int32} (hk : k = 8 - i) (hi : i < 8) (h : wnR V sd r n k i x z = R) :
    (sd i = 0 → wnR V sd r n (8 - (i + 1)) (i + 1) x z = R) ∧ (¬ sd i = 0 → nI 2 * V (r * 8 + i) ≤ n → wnR V sd r n (8 - (i + 1)) (i + 1) (x + nI 1) (nI i) = R) ∧ (¬ sd i = 0 → ¬ nI 2 * V (r * 8 + i) ≤ n → R = nI i) := by
  obtain ⟨j, rfl⟩ : ∃ j, k = j + 1 := ⟨k - 1, by omega⟩
  have e : 8 - (i + 1) = j := by omega
  subst h
  rw [e]
  refine ⟨fun c => ?_, fun c d => ?_, fun c d => ?_⟩
  · exact (if_pos c).symm
  · exact ((if_neg c).trans (if_pos d)).symm
  · exact (if_neg c).trans (if_neg d)
def nsC (V g7 : Nat → Int32) (g : Nat → Nat → Int32) (r i w : Nat) : Int32 := if V (r * 8 + i) = V (r * 8 + w) then (if vSum g7 (w * 6) (zh g w) < vSum g7 (i * 6) (zh g i) then nI 0 else nI 1) else if V (r * 8 + w) ≤ V (r * 8 + i) then nI 0 else nI 1
def dwI (V sd : Nat → Int32) (g : Nat → Nat → Int32) (r : Nat) : Nat → Int32
  | 0 => (-1)
  | i + 1 => if sd i = 0 then dwI V sd g r i else if dwI V sd g r i = (-1) then nI i else if nsC V (g 7) g r i (dwI V sd g r i).toNatClampNeg = 0 then dwI V sd g r i else nI i
theorem dwI_nat (V sd : Nat → Int32) (g : Nat → Nat → Int32) (r : Nat) : ∀ i, i ≤ 8 → ¬ dwI V sd g r i = (-1) → ∃ j, j < i ∧ dwI V sd g r i = nI j
  | 0, _, h => absurd rfl h
  | i + 1, hi, h => by
    unfold dwI at h ⊢
    by_cases h1 : sd i = 0
    · rw [if_pos h1] at h ⊢
      obtain ⟨j, q1, q2⟩ := dwI_nat V sd g r i (by omega) h
      exact ⟨j, by omega, q2⟩
    · rw [if_neg h1] at h ⊢
      by_cases h2 : dwI V sd g r i = (-1)
      · rw [if_pos h2]
        exact ⟨i, by omega, rfl⟩
      · rw [if_neg h2] at h ⊢
        obtain ⟨j, q1, q2⟩ := dwI_nat V sd g r i (by omega) h2
        split
        · exact ⟨j, by omega, q2⟩
        · exact ⟨i, by omega, rfl⟩
def dwC (g c : Nat → Nat → Int32) (r : Nat) : Nat → Nat → Int32 := if dwI (c 2) (c 1) g r 8 = (-1) then c else va_up c 1 (upd (c 1) (dwI (c 2) (c 1) g r 8).toNatClampNeg (nI 0))
def sdI (g : Nat → Nat → Int32) (f : Nat → Int32) : Nat → Nat → Int32
  | 0 => f
  | i + 1 => upd (sdI g f i) i (hbl g (nI i) (nI 0))
def rhC (c : Nat → Nat → Int32) (r : Nat) : Nat → Nat → Int32 := va_up c 0 (upd (upd (c 0) 0 (nI (r + 1))) 1 (wnC c r))
def tkR (g : Nat → Nat → Int32) : Nat → Nat → (Nat → Nat → Int32) → Nat → Nat → Int32
  | 0, _, c => c
  | k + 1, r, c => if wnC (cvC9 g c r) r = (-1) then tkR g k (r + 1) (dwC g (rhC (cvC9 g c r) r) r) else rhC (cvC9 g c r) r
theorem tk_step {g c T : Nat → Nat → Int32} {r k : Nat} (hk : k = 8 - r) (hr : r < 8) (h : tkR g k r c = T) : (wnC (cvC9 g c r) r = (-1) → tkR g (8 - (r + 1)) (r + 1) (dwC g (rhC (cvC9 g c r) r) r) = T) ∧ (¬ wnC (cvC9 g c r) r = (-1) → T = rhC (cvC9 g c r) r) := by
  obtain ⟨j, rfl⟩ : ∃ j, k = j + 1 := ⟨k - 1, by omega⟩
  have e : 8 - (r + 1) = j := by omega
  subst h
  rw [e]
  exact ⟨fun c => (if_pos c).symm, fun c => if_neg c⟩
def tk0 (g c : Nat → Nat → Int32) : Nat → Nat → Int32 := va_up (va_up c 0 (upd (upd (c 0) 0 (nI 0)) 1 (-1))) 1 (sdI g (c 1) 8)
def tkC (g c : Nat → Nat → Int32) : Nat → Nat → Int32 := if scN g 8 = 0 then tk0 g c else tkR g 8 0 (tk0 g c)
theorem iX2_votesIn_X2 : ∀ w ∈ u_ws RX2 TX2 5, w ∈ wsX2_votesIn := by decide +kernel
set_option maxHeartbeats 4000000 in
set_option maxRecDepth 100000 in
/-- votesIn -/
theorem c_X2_votesIn_1 {l : Launch} {y : zY} {D : va_G} (q : Nat → Nat) (c : Nat → Nat → Int32) (r s : Nat) (hr : r < 8) (hs : s < 8) (h0 : ¬ c 0 0 ≤ nI r) : zM l y D yX2_votesIn wsX2_votesIn 0 0 [.ref (q 0), .int (nI r), .int (nI s)] (zCo y q c) (zCo y q c) (some (.int (c 2 (r * 8 + s)))) := by
  refine z_start (own := RX2) (cc := cX2_votesIn) (maxL := 3) (ret := (some .int)) rfl (by decide +kernel) rfl (Nat.le_of_ble_eq_true rfl) rfl ?_
  intro E hEl hEy hED h hf
  subst hEl hEy hED
  have hkR : 0 ≤ E.2.2.2.2.2.1.cells ∧ 0 ≤ E.2.2.2.2.2.1.slots := ⟨Nat.zero_le _, Nat.zero_le _⟩
  refine z_cast (lv := [(0, .ref (q 0)), (1, .int (nI r)), (2, .int (nI s))]) (ws := (zCo (zy E) q c)) (st := []) ?_ rfl rfl rfl
  refine z_iload_n h 1 rfl dX2_votesIn_0 ?_
  refine z_if_lt h 12 dX2_votesIn_1 (by decide) (fun c_1 => ?_) (fun c_1 => ?_)
  · exact absurd c_1 (nI_pos (by omega))
  · refine z_iload_n h 1 rfl dX2_votesIn_4 ?_
    refine z_aload_n h 0 rfl dX2_votesIn_5 ?_
    refine z_get h 0 1 0 (v := .int ((c 0) 0)) rfl rfl iX2_votesIn_X2 (by decide) (List.mem_of_getElem? (i := 1) (by decide +kernel)) rfl rfl dX2_votesIn_6 ?_
    refine z_icmp_lt h 14 dX2_votesIn_9 (by decide) (fun c_9 => ?_) (fun c_9 => ?_)
    · refine z_aload_n h 0 rfl dX2_votesIn_14 ?_
      refine z_get h 0 1 4 (v := .ref (q 2)) rfl rfl iX2_votesIn_X2 (by decide) (List.mem_of_getElem? (i := 2) (by decide +kernel)) rfl rfl dX2_votesIn_15 ?_
      refine z_iload_n h 1 rfl dX2_votesIn_18 ?_
      refine z_bipush h (nI 8) (by decide +kernel) dX2_votesIn_19 ?_
      refine z_imul h dX2_votesIn_21 ?_
      refine z_top (nI (r * 8)) (pk_mul _ _) ?_
      refine z_iload_n h 2 rfl dX2_votesIn_22 ?_
      refine z_iadd h dX2_votesIn_23 ?_
      refine z_top (nI ((r * 8) + s)) (nI_add _ _) ?_
      refine z_iald h 2 ((r * 8) + s) (f := c 2) rfl rfl rfl (by omega) (by decide) dX2_votesIn_24 ?_
      exact z_iret h hf rfl rfl rfl dX2_votesIn_25
    · exact absurd (Int32.not_le.mp h0) c_9

set_option maxHeartbeats 4000000 in
set_option maxRecDepth 100000 in
/-- votesIn: no such round -/
theorem c_X2_votesIn_0 {l : Launch} {y : zY} {D : va_G} (q : Nat → Nat) (c : Nat → Nat → Int32) (r s : Nat) (hr : r < 2 ^ 31) (h0 : c 0 0 ≤ nI r) : zM l y D yX2_votesIn wsX2_votesIn 0 0 [.ref (q 0), .int (nI r), .int (nI s)] (zCo y q c) (zCo y q c) (some (.int (-1))) := by
  refine z_start (own := RX2) (cc := cX2_votesIn) (maxL := 3) (ret := (some .int)) rfl (by decide +kernel) rfl (Nat.le_of_ble_eq_true rfl) rfl ?_
  intro E hEl hEy hED h hf
  subst hEl hEy hED
  have hkR : 0 ≤ E.2.2.2.2.2.1.cells ∧ 0 ≤ E.2.2.2.2.2.1.slots := ⟨Nat.zero_le _, Nat.zero_le _⟩
  refine z_cast (lv := [(0, .ref (q 0)), (1, .int (nI r)), (2, .int (nI s))]) (ws := (zCo (zy E) q c)) (st := []) ?_ rfl rfl rfl
  refine z_iload_n h 1 rfl dX2_votesIn_0 ?_
  refine z_if_lt h 12 dX2_votesIn_1 (by decide) (fun c_1 => ?_) (fun c_1 => ?_)
  · exact absurd c_1 (nI_pos (by omega))
  · refine z_iload_n h 1 rfl dX2_votesIn_4 ?_
    refine z_aload_n h 0 rfl dX2_votesIn_5 ?_
    refine z_get h 0 1 0 (v := .int ((c 0) 0)) rfl rfl iX2_votesIn_X2 (by decide) (List.mem_of_getElem? (i := 1) (by decide +kernel)) rfl rfl dX2_votesIn_6 ?_
    refine z_icmp_lt h 14 dX2_votesIn_9 (by decide) (fun c_9 => ?_) (fun c_9 => ?_)
    · exact absurd c_9 (Int32.not_lt.mpr h0)
    · refine z_iconst h ((-1)) (by decide +kernel) dX2_votesIn_12 ?_
      exact z_iret h hf rfl rfl rfl dX2_votesIn_13

theorem iX2_countVotes_X1 : ∀ w ∈ u_ws RX1 TX1 2, w ∈ wsX2_countVotes := by decide +kernel
theorem iX2_countVotes_X2 : ∀ w ∈ u_ws RX2 TX2 5, w ∈ wsX2_countVotes := by decide +kernel
set_option maxHeartbeats 4000000 in
set_option maxRecDepth 100000 in
/-- countVotes -/
theorem c_X2_countVotes {l : Launch} {y : zY} {D : va_G} (p q : Nat → Nat) (g c : Nat → Nat → Int32) (r : Nat) (hr : r < 8) (hgb : okB g) : zM l y D yX2_countVotes wsX2_countVotes 3 66 [.ref (q 0), .int (nI r), .ref (p 14)] (zSa y p g ++ zCo y q c) (zSa y p g ++ zCo y q (cvC9 g c r)) (none) := by
  have hz9 := hgb.2
  refine z_start (own := RX2) (cc := cX2_countVotes) (maxL := 5) (ret := none) rfl (by decide +kernel) rfl (Nat.le_of_ble_eq_true rfl) rfl ?_
  intro E hEl hEy hED h hf
  subst hEl hEy hED
  have hkR : 0 ≤ E.2.2.2.2.2.1.cells ∧ 0 ≤ E.2.2.2.2.2.1.slots := ⟨Nat.zero_le _, Nat.zero_le _⟩
  refine z_cast (lv := [(0, .ref (q 0)), (1, .int (nI r)), (2, .ref (p 14))]) (ws := (zSa (zy E) p g ++ zCo (zy E) q c)) (st := []) ?_ rfl rfl rfl
  refine z_aload_n h 0 rfl dX2_countVotes_0 ?_
  refine z_iconst h (nI 0) (by decide +kernel) dX2_countVotes_1 ?_
  refine z_put h 16 1 2 (ws' := zSa (zy E) p g ++ zCo (zy E) q (va_up c 0 (upd (c 0) 2 (nI 0)))) tyX2 .int rfl rfl iX2_countVotes_X2 tyX2_ok nmX2 (by decide) (List.mem_of_getElem? (i := 1) (by decide +kernel)) rfl rfl (by decide +kernel) rfl rfl (Nat.le_of_ble_eq_true rfl) rfl dX2_countVotes_2 ?_
  refine z_iconst h (nI 0) (by decide +kernel) dX2_countVotes_5 ?_
  refine z_istore_n h (by decide) (lv' := [(3, .int (nI 0)), (0, .ref (q 0)), (1, .int (nI r)), (2, .ref (p 14))]) rfl dX2_countVotes_6 ?_
  have lp_7 : ∀ (d_7 i : Nat), 8 < i + d_7 → i ≤ 8 → Z E 0 0 [(0, .ref (q 0)), (1, .int (nI r)), (2, .ref (p 14)), (3, .int (nI i))] (zSa (zy E) p g ++ zCo (zy E) q (va_up (va_up c 0 (upd (c 0) 2 (nI 0))) 2 (vtI (c 2) (c 1) r i))) 7 [] := by
    intro d_7
    induction d_7 with
    | zero => intro i  q1 q2; omega
    | succ d_7 ih_7 =>
      intro i  q1_7 q2_7 
      refine z_iload_n h 3 rfl dX2_countVotes_7 ?_
      refine z_bipush h (nI 8) (by decide +kernel) dX2_countVotes_8 ?_
      refine z_icmp_ge h 44 dX2_countVotes_10 (by decide) (fun c_10 => ?_) (fun c_10 => ?_)
      · have k_10 : 8 ≤ i := (nI_leI (by omega) (by omega)).mp c_10
        obtain rfl : i = 8 := by omega
        refine z_iconst h (nI 0) (by decide +kernel) dX2_countVotes_44 ?_
        refine z_istore_n h (by decide) (lv' := [(3, .int (nI 0)), (0, .ref (q 0)), (1, .int (nI r)), (2, .ref (p 14))]) rfl dX2_countVotes_45 ?_
        have lp_46 : ∀ (d_46 b : Nat), (zb g) < b + d_46 → b ≤ (zb g) → Z E 0 0 [(0, .ref (q 0)), (1, .int (nI r)), (2, .ref (p 14)), (3, .int (nI b))] (zSa (zy E) p g ++ zCo (zy E) q (va_up (va_up c 0 (upd (c 0) 2 (cbI (c 2) (g 12) (c 1) r b).2)) 2 ((cbI (c 2) (g 12) (c 1) r b).1))) 46 [] := by
          intro d_46
          induction d_46 with
          | zero => intro b  q1 q2; omega
          | succ d_46 ih_46 =>
            intro b  q1_46 q2_46 
            refine z_iload_n h 3 rfl dX2_countVotes_46 ?_
            refine z_aload_n h 2 rfl dX2_countVotes_47 ?_
            refine z_get h 14 0 0 (v := .int ((g 0) 7)) rfl rfl iX2_countVotes_X1 (by decide) (List.mem_of_getElem? (i := 4) (by decide +kernel)) rfl rfl dX2_countVotes_48 ?_
            refine z_top (nI (zb g)) hgb.1 ?_
            refine z_icmp_ge h 103 dX2_countVotes_51 (by decide) (fun c_51 => ?_) (fun c_51 => ?_)
            · have k_51 : (zb g) ≤ b := (nI_leI (by omega) (by omega)).mp c_51
              obtain rfl : b = (zb g) := by omega
              exact z_vret h hf rfl rfl rfl dX2_countVotes_103
            · have k_51 : ¬ ((zb g) ≤ b) := fun q => c_51 ((nI_leI (by omega) (by omega)).mpr q)
              refine z_aload_n h 2 rfl dX2_countVotes_54 ?_
              refine z_aload_n h 0 rfl dX2_countVotes_55 ?_
              refine z_get h 16 1 3 (v := .ref (q 1)) rfl rfl iX2_countVotes_X2 (by decide) (List.mem_of_getElem? (i := 3) (by decide +kernel)) rfl rfl dX2_countVotes_56 ?_
              refine z_iload_n h 3 rfl dX2_countVotes_59 ?_
              refine z_callV h (As := [.ref (q 1), .int (nI b)]) (st := []) (ws2 := zSa (zy E) p g ++ zCo (zy E) q (va_up (va_up c 0 (upd (c 0) 2 (cbI (c 2) (g 12) (c 1) r b).2)) 2 ((cbI (c 2) (g 12) (c 1) r b).1))) (B := zBa (zy E) (fun i => p (14 + i)) g ++ [(q 1, .inl ((zy E).1 1, 8, .inl (c 1)))]) (B' := zBa (zy E) (fun i => p (14 + i)) g ++ [(q 1, .inl ((zy E).1 1, 8, .inl (c 1)))]) (r := some (.int (chR (g 12) (c 1) b 3))) 2 (c_X1_choiceAmong (fun i => p (14 + i)) g (q 1) (c 1) b (by have := hgb.2; omega)) gX2_countVotes_X1_choiceAmong (q0 := 14) (ci := 0) (by decide +kernel) rfl rfl rfl ⟨by decide, by decide⟩ [14, 15, 17] rfl (by decide) rfl (Nat.le_of_ble_eq_true rfl) rfl rfl dX2_countVotes_60 ?_ hkR
              refine z_istore h (by decide) (lv' := [(4, .int (chR (g 12) (c 1) b 3)), (0, .ref (q 0)), (1, .int (nI r)), (2, .ref (p 14)), (3, .int (nI b))]) rfl dX2_countVotes_63 ?_
              refine z_iload h 0 rfl dX2_countVotes_65 ?_
              refine z_iconst h ((-1)) (by decide +kernel) dX2_countVotes_67 ?_
              refine z_icmp_eq h 97 dX2_countVotes_68 (by decide) (fun c_68 => ?_) (fun c_68 => ?_)
              · refine z_iinc h 4 (nI (b + 1)) rfl z_i1 (by decide) (lv' := [(3, .int (nI (b + 1))), (4, .int (chR (g 12) (c 1) b 3)), (0, .ref (q 0)), (1, .int (nI r)), (2, .ref (p 14))]) rfl dX2_countVotes_97 ?_
                refine z_goto h 46 dX2_countVotes_100 (by decide) ?_
                refine z_sub [2, 3, 4, 0] (lv' := [(0, .ref (q 0)), (1, .int (nI r)), (2, .ref (p 14)), (3, .int (nI (b + 1)))]) rfl ?_
                exact z_cast (ih_46 (b + 1) (by omega) (by omega)) rfl (by rw [cb_0 c_68] <;> rfl) rfl
              · obtain ⟨j, hj8, hj⟩ := chR_nat (g 12) (c 1) b 3 c_68
                have hjc : (chR (g 12) (c 1) b 3).toNatClampNeg = j := by rw [hj]; exact nI_clamp (by omega)
                have hz9 := hgb.2
                refine z_aload_n h 1 rfl dX2_countVotes_71 ?_
                refine z_get h 16 1 4 (v := .ref (q 2)) rfl rfl iX2_countVotes_X2 (by decide) (List.mem_of_getElem? (i := 2) (by decide +kernel)) rfl rfl dX2_countVotes_72 ?_
                refine z_iload_n h 2 rfl dX2_countVotes_75 ?_
                refine z_bipush h (nI 8) (by decide +kernel) dX2_countVotes_76 ?_
                refine z_imul h dX2_countVotes_78 ?_
                refine z_top (nI (r * 8)) (pk_mul _ _) ?_
                refine z_iload h 0 rfl dX2_countVotes_79 ?_
                refine z_top (nI j) hj ?_
                refine z_iadd h dX2_countVotes_81 ?_
                refine z_top (nI ((r * 8) + j)) (nI_add _ _) ?_
                refine z_dup2 h dX2_countVotes_82 rfl rfl ?_
                refine z_iald h 18 ((r * 8) + j) (f := (cbI (c 2) (g 12) (c 1) r b).1) rfl rfl rfl (by omega) (by decide) dX2_countVotes_83 ?_
                refine z_iconst h (nI 1) (by decide +kernel) dX2_countVotes_84 ?_
                refine z_iadd h dX2_countVotes_85 ?_
                refine z_iast h 18 ((r * 8) + j) ((((cbI (c 2) (g 12) (c 1) r b).1) ((r * 8) + j)) + (nI 1)) (ws' := zSa (zy E) p g ++ zCo (zy E) q (va_up (va_up c 0 (upd (c 0) 2 (cbI (c 2) (g 12) (c 1) r b).2)) 2 (upd ((cbI (c 2) (g 12) (c 1) r b).1) ((r * 8) + j) ((((cbI (c 2) (g 12) (c 1) r b).1) ((r * 8) + j)) + (nI 1))))) rfl rfl rfl rfl (by omega) (by decide) rfl dX2_countVotes_86 ?_
                refine z_aload_n h 1 rfl dX2_countVotes_87 ?_
                refine z_dup h dX2_countVotes_88 rfl ?_
                refine z_get h 16 1 2 (v := .int ((upd (c 0) 2 (cbI (c 2) (g 12) (c 1) r b).2) 2)) rfl rfl iX2_countVotes_X2 (by decide) (List.mem_of_getElem? (i := 1) (by decide +kernel)) rfl rfl dX2_countVotes_89 ?_
                refine z_iconst h (nI 1) (by decide +kernel) dX2_countVotes_92 ?_
                refine z_iadd h dX2_countVotes_93 ?_
                refine z_put h 16 1 2 (ws' := zSa (zy E) p g ++ zCo (zy E) q (va_up (va_up c 0 (upd (upd (c 0) 2 (cbI (c 2) (g 12) (c 1) r b).2) 2 (((upd (c 0) 2 (cbI (c 2) (g 12) (c 1) r b).2) 2) + (nI 1)))) 2 (upd ((cbI (c 2) (g 12) (c 1) r b).1) ((r * 8) + j) ((((cbI (c 2) (g 12) (c 1) r b).1) ((r * 8) + j)) + (nI 1))))) tyX2 .int rfl rfl iX2_countVotes_X2 tyX2_ok nmX2 (by decide) (List.mem_of_getElem? (i := 1) (by decide +kernel)) rfl rfl (by decide +kernel) rfl rfl (Nat.le_of_ble_eq_true rfl) rfl dX2_countVotes_94 ?_
                refine z_iinc h 4 (nI (b + 1)) rfl z_i1 (by decide) (lv' := [(3, .int (nI (b + 1))), (4, .int (chR (g 12) (c 1) b 3)), (0, .ref (q 0)), (1, .int (nI r)), (2, .ref (p 14))]) rfl dX2_countVotes_97 ?_
                refine z_goto h 46 dX2_countVotes_100 (by decide) ?_
                refine z_sub [2, 3, 4, 0] (lv' := [(0, .ref (q 0)), (1, .int (nI r)), (2, .ref (p 14)), (3, .int (nI (b + 1)))]) rfl ?_
                exact z_cast (ih_46 (b + 1) (by omega) (by omega)) rfl (by rw [cb_1 c_68 hjc] <;> rfl) rfl
        refine z_sub [1, 2, 3, 0] (lv' := [(0, .ref (q 0)), (1, .int (nI r)), (2, .ref (p 14)), (3, .int (nI 0))]) rfl ?_
        exact z_cast (lp_46 ((zb g) + 1) 0 (by omega) (by omega)) rfl rfl rfl
      · have k_10 : ¬ (8 ≤ i) := fun q => c_10 ((nI_leI (by omega) (by omega)).mpr q)
        refine z_aload_n h 0 rfl dX2_countVotes_13 ?_
        refine z_get h 16 1 4 (v := .ref (q 2)) rfl rfl iX2_countVotes_X2 (by decide) (List.mem_of_getElem? (i := 2) (by decide +kernel)) rfl rfl dX2_countVotes_14 ?_
        refine z_iload_n h 1 rfl dX2_countVotes_17 ?_
        refine z_bipush h (nI 8) (by decide +kernel) dX2_countVotes_18 ?_
        refine z_imul h dX2_countVotes_20 ?_
        refine z_top (nI (r * 8)) (pk_mul _ _) ?_
        refine z_iload_n h 3 rfl dX2_countVotes_21 ?_
        refine z_iadd h dX2_countVotes_22 ?_
        refine z_top (nI ((r * 8) + i)) (nI_add _ _) ?_
        refine z_aload_n h 0 rfl dX2_countVotes_23 ?_
        refine z_get h 16 1 3 (v := .ref (q 1)) rfl rfl iX2_countVotes_X2 (by decide) (List.mem_of_getElem? (i := 3) (by decide +kernel)) rfl rfl dX2_countVotes_24 ?_
        refine z_iload_n h 3 rfl dX2_countVotes_27 ?_
        refine z_zald h 17 i (f := c 1) rfl rfl rfl (by omega) (by decide) dX2_countVotes_28 ?_
        refine z_if_eq h 36 dX2_countVotes_29 (by decide) (fun c_29 => ?_) (fun c_29 => ?_)
        · refine z_iconst h ((-1)) (by decide +kernel) dX2_countVotes_36 ?_
          refine z_iast h 18 ((r * 8) + i) (-1) (ws' := zSa (zy E) p g ++ zCo (zy E) q (va_up (va_up c 0 (upd (c 0) 2 (nI 0))) 2 (upd (vtI (c 2) (c 1) r i) ((r * 8) + i) (-1)))) rfl rfl rfl rfl (by omega) (by decide) rfl dX2_countVotes_37 ?_
          refine z_iinc h 3 (nI (i + 1)) rfl z_i1 (by decide) (lv' := [(3, .int (nI (i + 1))), (0, .ref (q 0)), (1, .int (nI r)), (2, .ref (p 14))]) rfl dX2_countVotes_38 ?_
          refine z_goto h 7 dX2_countVotes_41 (by decide) ?_
          refine z_sub [1, 2, 3, 0] (lv' := [(0, .ref (q 0)), (1, .int (nI r)), (2, .ref (p 14)), (3, .int (nI (i + 1)))]) rfl ?_
          exact z_cast (ih_7 (i + 1) (by omega) (by omega)) rfl (by simp only [vtI, if_pos c_29] <;> rfl) rfl
        · refine z_iconst h (nI 0) (by decide +kernel) dX2_countVotes_32 ?_
          refine z_goto h 37 dX2_countVotes_33 (by decide) ?_
          refine z_iast h 18 ((r * 8) + i) (nI 0) (ws' := zSa (zy E) p g ++ zCo (zy E) q (va_up (va_up c 0 (upd (c 0) 2 (nI 0))) 2 (upd (vtI (c 2) (c 1) r i) ((r * 8) + i) (nI 0)))) rfl rfl rfl rfl (by omega) (by decide) rfl dX2_countVotes_37 ?_
          refine z_iinc h 3 (nI (i + 1)) rfl z_i1 (by decide) (lv' := [(3, .int (nI (i + 1))), (0, .ref (q 0)), (1, .int (nI r)), (2, .ref (p 14))]) rfl dX2_countVotes_38 ?_
          refine z_goto h 7 dX2_countVotes_41 (by decide) ?_
          refine z_sub [1, 2, 3, 0] (lv' := [(0, .ref (q 0)), (1, .int (nI r)), (2, .ref (p 14)), (3, .int (nI (i + 1)))]) rfl ?_
          exact z_cast (ih_7 (i + 1) (by omega) (by omega)) rfl (by simp only [vtI, if_neg c_29] <;> rfl) rfl
  refine z_sub [1, 2, 3, 0] (lv' := [(0, .ref (q 0)), (1, .int (nI r)), (2, .ref (p 14)), (3, .int (nI 0))]) rfl ?_
  exact z_cast (lp_7 (8 + 1) 0 (by omega) (by omega)) rfl rfl rfl

theorem iX2_winnerOf_X2 : ∀ w ∈ u_ws RX2 TX2 5, w ∈ wsX2_winnerOf := by decide +kernel
set_option maxHeartbeats 4000000 in
set_option maxRecDepth 100000 in
/-- winnerOf -/
theorem c_X2_winnerOf {l : Launch} {y : zY} {D : va_G} (q : Nat → Nat) (c : Nat → Nat → Int32) (r : Nat) (hr : r < 8) : zM l y D yX2_winnerOf wsX2_winnerOf 0 0 [.ref (q 0), .int (nI r)] (zCo y q c) (zCo y q c) (some (.int (wnC c r))) := by
  refine z_start (own := RX2) (cc := cX2_winnerOf) (maxL := 5) (ret := (some .int)) rfl (by decide +kernel) rfl (Nat.le_of_ble_eq_true rfl) rfl ?_
  intro E hEl hEy hED h hf
  subst hEl hEy hED
  have hkR : 0 ≤ E.2.2.2.2.2.1.cells ∧ 0 ≤ E.2.2.2.2.2.1.slots := ⟨Nat.zero_le _, Nat.zero_le _⟩
  refine z_cast (lv := [(0, .ref (q 0)), (1, .int (nI r))]) (ws := (zCo (zy E) q c)) (st := []) ?_ rfl rfl rfl
  refine z_iconst h (nI 0) (by decide +kernel) dX2_winnerOf_0 ?_
  refine z_istore_n h (by decide) (lv' := [(2, .int (nI 0)), (0, .ref (q 0)), (1, .int (nI r))]) rfl dX2_winnerOf_1 ?_
  refine z_iconst h ((-1)) (by decide +kernel) dX2_winnerOf_2 ?_
  refine z_istore_n h (by decide) (lv' := [(3, .int (-1)), (2, .int (nI 0)), (0, .ref (q 0)), (1, .int (nI r))]) rfl dX2_winnerOf_3 ?_
  refine z_iconst h (nI 0) (by decide +kernel) dX2_winnerOf_4 ?_
  refine z_istore h (by decide) (lv' := [(4, .int (nI 0)), (3, .int (-1)), (2, .int (nI 0)), (0, .ref (q 0)), (1, .int (nI r))]) rfl dX2_winnerOf_5 ?_
  have lp_7 : ∀ (d_7 i : Nat) (x9 z9 : Int32), 8 < i + d_7 → i ≤ 8 → (wnR (c 2) (c 1) r (c 0 2) (8 - i) i x9 z9 = wnC c r) → Z E 0 0 [(0, .ref (q 0)), (1, .int (nI r)), (2, .int x9), (3, .int z9), (4, .int (nI i))] (zCo (zy E) q c) 7 [] := by
    intro d_7
    induction d_7 with
    | zero => intro i x9 z9 q1 q2; omega
    | succ d_7 ih_7 =>
      intro i x9 z9 q1_7 q2_7 hw
      refine z_iload h 4 rfl dX2_winnerOf_7 ?_
      refine z_bipush h (nI 8) (by decide +kernel) dX2_winnerOf_9 ?_
      refine z_icmp_ge h 60 dX2_winnerOf_11 (by decide) (fun c_11 => ?_) (fun c_11 => ?_)
      · have k_11 : 8 ≤ i := (nI_leI (by omega) (by omega)).mp c_11
        obtain rfl : i = 8 := by omega
        refine z_iload_n h 2 rfl dX2_winnerOf_60 ?_
        refine z_iconst h (nI 1) (by decide +kernel) dX2_winnerOf_61 ?_
        refine z_icmp_ne h 69 dX2_winnerOf_62 (by decide) (fun c_62 => ?_) (fun c_62 => ?_)
        · refine z_iconst h ((-1)) (by decide +kernel) dX2_winnerOf_69 ?_
          exact z_iret h hf rfl (by rw [← hw]; show some (Value.int (if x9 = nI 1 then z9 else (-1))) = _; rw [if_neg c_62]) rfl dX2_winnerOf_70
        · refine z_iload_n h 3 rfl dX2_winnerOf_65 ?_
          refine z_goto h 70 dX2_winnerOf_66 (by decide) ?_
          exact z_iret h hf rfl (by rw [← hw]; show some (Value.int (if x9 = nI 1 then z9 else (-1))) = _; rw [if_pos c_62]) rfl dX2_winnerOf_70
      · have k_11 : ¬ (8 ≤ i) := fun q => c_11 ((nI_leI (by omega) (by omega)).mpr q)
        refine z_aload_n h 0 rfl dX2_winnerOf_14 ?_
        refine z_get h 0 1 3 (v := .ref (q 1)) rfl rfl iX2_winnerOf_X2 (by decide) (List.mem_of_getElem? (i := 1) (by decide +kernel)) rfl rfl dX2_winnerOf_15 ?_
        refine z_iload h 4 rfl dX2_winnerOf_18 ?_
        refine z_zald h 1 i (f := c 1) rfl rfl rfl (by omega) (by decide) dX2_winnerOf_20 ?_
        refine z_if_eq h 54 dX2_winnerOf_21 (by decide) (fun c_21 => ?_) (fun c_21 => ?_)
        · refine z_iinc h 4 (nI (i + 1)) rfl z_i1 (by decide) (lv' := [(4, .int (nI (i + 1))), (0, .ref (q 0)), (1, .int (nI r)), (2, .int x9), (3, .int z9)]) rfl dX2_winnerOf_54 ?_
          refine z_goto h 7 dX2_winnerOf_57 (by decide) ?_
          refine z_sub [1, 2, 3, 4, 0] (lv' := [(0, .ref (q 0)), (1, .int (nI r)), (2, .int x9), (3, .int z9), (4, .int (nI (i + 1)))]) rfl ?_
          exact z_cast (ih_7 (i + 1) x9 z9 (by omega) (by omega) ((wn_step rfl (by omega) hw).1 c_21)) rfl rfl rfl
        · refine z_iconst h (nI 2) (by decide +kernel) dX2_winnerOf_24 ?_
          refine z_aload_n h 0 rfl dX2_winnerOf_25 ?_
          refine z_get h 0 1 4 (v := .ref (q 2)) rfl rfl iX2_winnerOf_X2 (by decide) (List.mem_of_getElem? (i := 2) (by decide +kernel)) rfl rfl dX2_winnerOf_26 ?_
          refine z_iload_n h 1 rfl dX2_winnerOf_29 ?_
          refine z_bipush h (nI 8) (by decide +kernel) dX2_winnerOf_30 ?_
          refine z_imul h dX2_winnerOf_32 ?_
          refine z_top (nI (r * 8)) (pk_mul _ _) ?_
          refine z_iload h 4 rfl dX2_winnerOf_33 ?_
          refine z_iadd h dX2_winnerOf_35 ?_
          refine z_top (nI ((r * 8) + i)) (nI_add _ _) ?_
          refine z_iald h 2 ((r * 8) + i) (f := c 2) rfl rfl rfl (by omega) (by decide) dX2_winnerOf_36 ?_
          refine z_imul h dX2_winnerOf_37 ?_
          refine z_aload_n h 0 rfl dX2_winnerOf_38 ?_
          refine z_get h 0 1 2 (v := .int ((c 0) 2)) rfl rfl iX2_winnerOf_X2 (by decide) (List.mem_of_getElem? (i := 3) (by decide +kernel)) rfl rfl dX2_winnerOf_39 ?_
          refine z_icmp_le h 48 dX2_winnerOf_42 (by decide) (fun c_42 => ?_) (fun c_42 => ?_)
          · refine z_iinc h 2 (x9 + Int32.ofInt 1) rfl rfl (by decide) (lv' := [(2, .int (x9 + Int32.ofInt 1)), (0, .ref (q 0)), (1, .int (nI r)), (3, .int z9), (4, .int (nI i))]) rfl dX2_winnerOf_48 ?_
            refine z_iload h 4 rfl dX2_winnerOf_51 ?_
            refine z_istore_n h (by decide) (lv' := [(3, .int (nI i)), (2, .int (x9 + Int32.ofInt 1)), (0, .ref (q 0)), (1, .int (nI r)), (4, .int (nI i))]) rfl dX2_winnerOf_53 ?_
            refine z_iinc h 4 (nI (i + 1)) rfl z_i1 (by decide) (lv' := [(4, .int (nI (i + 1))), (3, .int (nI i)), (2, .int (x9 + Int32.ofInt 1)), (0, .ref (q 0)), (1, .int (nI r))]) rfl dX2_winnerOf_54 ?_
            refine z_goto h 7 dX2_winnerOf_57 (by decide) ?_
            refine z_sub [3, 4, 2, 1, 0] (lv' := [(0, .ref (q 0)), (1, .int (nI r)), (2, .int (x9 + Int32.ofInt 1)), (3, .int (nI i)), (4, .int (nI (i + 1)))]) rfl ?_
            exact z_cast (ih_7 (i + 1) (x9 + Int32.ofInt 1) (nI i) (by omega) (by omega) ((wn_step rfl (by omega) hw).2.1 c_21 c_42)) rfl rfl rfl
          · refine z_iload h 4 rfl dX2_winnerOf_45 ?_
            exact z_iret h hf rfl (by rw [(wn_step rfl (by omega) hw).2.2 c_21 c_42]) rfl dX2_winnerOf_47
  refine z_sub [3, 4, 2, 1, 0] (lv' := [(0, .ref (q 0)), (1, .int (nI r)), (2, .int (nI 0)), (3, .int (-1)), (4, .int (nI 0))]) rfl ?_
  exact z_cast (lp_7 (8 + 1) 0 (nI 0) (-1) (by omega) (by omega) rfl) rfl rfl rfl

theorem iX2_isNotStronger_X2 : ∀ w ∈ u_ws RX2 TX2 5, w ∈ wsX2_isNotStronger := by decide +kernel
set_option maxHeartbeats 4000000 in
set_option maxRecDepth 100000 in
/-- isNotStronger -/
theorem c_X2_isNotStronger {l : Launch} {y : zY} {D : va_G} (p q : Nat → Nat) (g c : Nat → Nat → Int32) (i j r : Nat) (hi : i < 8) (hj : j < 8) (hr : r < 8) (hg : okH g) : zM l y D yX2_isNotStronger wsX2_isNotStronger 2 44 [.ref (q 0), .int (nI i), .int (nI j), .int (nI r), .ref (p 2)] (zSa y p g ++ zCo y q c) (zSa y p g ++ zCo y q c) (some (.int (nsC (c 2) (g 7) g r i j))) := by
  refine z_start (own := RX2) (cc := cX2_isNotStronger) (maxL := 7) (ret := (some .boolean)) rfl (by decide +kernel) rfl (Nat.le_of_ble_eq_true rfl) rfl ?_
  intro E hEl hEy hED h hf
  subst hEl hEy hED
  have hkR : 0 ≤ E.2.2.2.2.2.1.cells ∧ 0 ≤ E.2.2.2.2.2.1.slots := ⟨Nat.zero_le _, Nat.zero_le _⟩
  refine z_cast (lv := [(0, .ref (q 0)), (1, .int (nI i)), (2, .int (nI j)), (3, .int (nI r)), (4, .ref (p 2))]) (ws := (zSa (zy E) p g ++ zCo (zy E) q c)) (st := []) ?_ rfl rfl rfl
  refine z_aload_n h 0 rfl dX2_isNotStronger_0 ?_
  refine z_get h 16 1 4 (v := .ref (q 2)) rfl rfl iX2_isNotStronger_X2 (by decide) (List.mem_of_getElem? (i := 1) (by decide +kernel)) rfl rfl dX2_isNotStronger_1 ?_
  refine z_iload_n h 3 rfl dX2_isNotStronger_4 ?_
  refine z_bipush h (nI 8) (by decide +kernel) dX2_isNotStronger_5 ?_
  refine z_imul h dX2_isNotStronger_7 ?_
  refine z_top (nI (r * 8)) (pk_mul _ _) ?_
  refine z_iload_n h 1 rfl dX2_isNotStronger_8 ?_
  refine z_iadd h dX2_isNotStronger_9 ?_
  refine z_top (nI ((r * 8) + i)) (nI_add _ _) ?_
  refine z_iald h 18 ((r * 8) + i) (f := c 2) rfl rfl rfl (by omega) (by decide) dX2_isNotStronger_10 ?_
  refine z_istore h (by decide) (lv' := [(5, .int ((c 2) ((r * 8) + i))), (0, .ref (q 0)), (1, .int (nI i)), (2, .int (nI j)), (3, .int (nI r)), (4, .ref (p 2))]) rfl dX2_isNotStronger_11 ?_
  refine z_aload_n h 1 rfl dX2_isNotStronger_13 ?_
  refine z_get h 16 1 4 (v := .ref (q 2)) rfl rfl iX2_isNotStronger_X2 (by decide) (List.mem_of_getElem? (i := 1) (by decide +kernel)) rfl rfl dX2_isNotStronger_14 ?_
  refine z_iload_n h 4 rfl dX2_isNotStronger_17 ?_
  refine z_bipush h (nI 8) (by decide +kernel) dX2_isNotStronger_18 ?_
  refine z_imul h dX2_isNotStronger_20 ?_
  refine z_top (nI (r * 8)) (pk_mul _ _) ?_
  refine z_iload_n h 3 rfl dX2_isNotStronger_21 ?_
  refine z_iadd h dX2_isNotStronger_22 ?_
  refine z_top (nI ((r * 8) + j)) (nI_add _ _) ?_
  refine z_iald h 18 ((r * 8) + j) (f := c 2) rfl rfl rfl (by omega) (by decide) dX2_isNotStronger_23 ?_
  refine z_istore h (by decide) (lv' := [(6, .int ((c 2) ((r * 8) + j))), (5, .int ((c 2) ((r * 8) + i))), (0, .ref (q 0)), (1, .int (nI i)), (2, .int (nI j)), (3, .int (nI r)), (4, .ref (p 2))]) rfl dX2_isNotStronger_24 ?_
  refine z_iload h 1 rfl dX2_isNotStronger_26 ?_
  refine z_iload h 0 rfl dX2_isNotStronger_28 ?_
  refine z_icmp_eq h 46 dX2_isNotStronger_30 (by decide) (fun c_30 => ?_) (fun c_30 => ?_)
  · refine z_aload h 6 rfl dX2_isNotStronger_46 ?_
    refine z_iload_n h 3 rfl dX2_isNotStronger_48 ?_
    refine z_callV h (As := [.int (nI i)]) (st := []) (ws2 := zSa (zy E) p g ++ zCo (zy E) q c) (B := zSt (zy E) (fun i => p (2 + i)) g) (B' := zSt (zy E) (fun i => p (2 + i)) g) (r := some (.int (vSum (g 7) (i * 6) (zh g i)))) 1 (c_X4_volumeOf (fun i => p (2 + i)) g i (by omega) hg) gX2_isNotStronger_X4_volumeOf (q0 := 2) (ci := 3) (by decide +kernel) rfl rfl rfl ⟨by decide, by decide⟩ [2, 3, 4, 5, 6, 7, 8, 9] rfl (by decide) rfl (Nat.le_of_ble_eq_true rfl) rfl rfl dX2_isNotStronger_49 ?_ hkR
    refine z_aload h 6 rfl dX2_isNotStronger_52 ?_
    refine z_iload_n h 4 rfl dX2_isNotStronger_54 ?_
    refine z_callV h (As := [.int (nI j)]) (st := [.int (vSum (g 7) (i * 6) (zh g i))]) (ws2 := zSa (zy E) p g ++ zCo (zy E) q c) (B := zSt (zy E) (fun i => p (2 + i)) g) (B' := zSt (zy E) (fun i => p (2 + i)) g) (r := some (.int (vSum (g 7) (j * 6) (zh g j)))) 1 (c_X4_volumeOf (fun i => p (2 + i)) g j (by omega) hg) gX2_isNotStronger_X4_volumeOf (q0 := 2) (ci := 3) (by decide +kernel) rfl rfl rfl ⟨by decide, by decide⟩ [2, 3, 4, 5, 6, 7, 8, 9] rfl (by decide) rfl (Nat.le_of_ble_eq_true rfl) rfl rfl dX2_isNotStronger_55 ?_ hkR
    refine z_icmp_gt h 65 dX2_isNotStronger_58 (by decide) (fun c_58 => ?_) (fun c_58 => ?_)
    · refine z_iconst h (nI 0) (by decide +kernel) dX2_isNotStronger_65 ?_
      exact z_zret h hf rfl rfl (by simp only [nsC, if_pos c_30, if_pos c_58]) rfl dX2_isNotStronger_66
    · refine z_iconst h (nI 1) (by decide +kernel) dX2_isNotStronger_61 ?_
      refine z_goto h 66 dX2_isNotStronger_62 (by decide) ?_
      exact z_zret h hf rfl rfl (by simp only [nsC, if_pos c_30, if_neg c_58]) rfl dX2_isNotStronger_66
  · refine z_iload h 1 rfl dX2_isNotStronger_33 ?_
    refine z_iload h 0 rfl dX2_isNotStronger_35 ?_
    refine z_icmp_ge h 44 dX2_isNotStronger_37 (by decide) (fun c_37 => ?_) (fun c_37 => ?_)
    · refine z_iconst h (nI 0) (by decide +kernel) dX2_isNotStronger_44 ?_
      exact z_zret h hf rfl rfl (by simp only [nsC, if_neg c_30, if_pos c_37]) rfl dX2_isNotStronger_45
    · refine z_iconst h (nI 1) (by decide +kernel) dX2_isNotStronger_40 ?_
      refine z_goto h 45 dX2_isNotStronger_41 (by decide) ?_
      exact z_zret h hf rfl rfl (by simp only [nsC, if_neg c_30, if_neg c_37]) rfl dX2_isNotStronger_45

theorem iX2_dropWeakest_X2 : ∀ w ∈ u_ws RX2 TX2 5, w ∈ wsX2_dropWeakest := by decide +kernel
set_option maxHeartbeats 4000000 in
set_option maxRecDepth 100000 in
/-- dropWeakest -/
theorem c_X2_dropWeakest {l : Launch} {y : zY} {D : va_G} (p q : Nat → Nat) (g c : Nat → Nat → Int32) (r : Nat) (hr : r < 8) (hg : okH g) : zM l y D yX2_dropWeakest wsX2_dropWeakest 3 70 [.ref (q 0), .int (nI r), .ref (p 2)] (zSa y p g ++ zCo y q c) (zSa y p g ++ zCo y q (dwC g c r)) (none) := by
  refine z_start (own := RX2) (cc := cX2_dropWeakest) (maxL := 5) (ret := none) rfl (by decide +kernel) rfl (Nat.le_of_ble_eq_true rfl) rfl ?_
  intro E hEl hEy hED h hf
  subst hEl hEy hED
  have hkR : 0 ≤ E.2.2.2.2.2.1.cells ∧ 0 ≤ E.2.2.2.2.2.1.slots := ⟨Nat.zero_le _, Nat.zero_le _⟩
  refine z_cast (lv := [(0, .ref (q 0)), (1, .int (nI r)), (2, .ref (p 2))]) (ws := (zSa (zy E) p g ++ zCo (zy E) q c)) (st := []) ?_ rfl rfl rfl
  refine z_iconst h ((-1)) (by decide +kernel) dX2_dropWeakest_0 ?_
  refine z_istore_n h (by decide) (lv' := [(3, .int (-1)), (0, .ref (q 0)), (1, .int (nI r)), (2, .ref (p 2))]) rfl dX2_dropWeakest_1 ?_
  refine z_iconst h (nI 0) (by decide +kernel) dX2_dropWeakest_2 ?_
  refine z_istore h (by decide) (lv' := [(4, .int (nI 0)), (3, .int (-1)), (0, .ref (q 0)), (1, .int (nI r)), (2, .ref (p 2))]) rfl dX2_dropWeakest_3 ?_
  have lp_5 : ∀ (d_5 i : Nat), 8 < i + d_5 → i ≤ 8 → Z E 0 0 [(0, .ref (q 0)), (1, .int (nI r)), (2, .ref (p 2)), (3, .int (dwI (c 2) (c 1) g r i)), (4, .int (nI i))] (zSa (zy E) p g ++ zCo (zy E) q c) 5 [] := by
    intro d_5
    induction d_5 with
    | zero => intro i  q1 q2; omega
    | succ d_5 ih_5 =>
      intro i  q1_5 q2_5 
      refine z_iload h 4 rfl dX2_dropWeakest_5 ?_
      refine z_bipush h (nI 8) (by decide +kernel) dX2_dropWeakest_7 ?_
      refine z_icmp_ge h 48 dX2_dropWeakest_9 (by decide) (fun c_9 => ?_) (fun c_9 => ?_)
      · have k_9 : 8 ≤ i := (nI_leI (by omega) (by omega)).mp c_9
        obtain rfl : i = 8 := by omega
        refine z_iload_n h 3 rfl dX2_dropWeakest_48 ?_
        refine z_iconst h ((-1)) (by decide +kernel) dX2_dropWeakest_49 ?_
        refine z_icmp_eq h 60 dX2_dropWeakest_50 (by decide) (fun c_50 => ?_) (fun c_50 => ?_)
        · exact z_vret h hf rfl rfl (by unfold dwC; rw [if_pos c_50]) dX2_dropWeakest_60
        · obtain ⟨j, hj8, hj⟩ := dwI_nat (c 2) (c 1) g r 8 (by omega) c_50
          have hjc : (dwI (c 2) (c 1) g r 8).toNatClampNeg = j := by rw [hj]; exact nI_clamp (by omega)
          refine z_aload_n h 0 rfl dX2_dropWeakest_53 ?_
          refine z_get h 16 1 3 (v := .ref (q 1)) rfl rfl iX2_dropWeakest_X2 (by decide) (List.mem_of_getElem? (i := 1) (by decide +kernel)) rfl rfl dX2_dropWeakest_54 ?_
          refine z_iload_n h 3 rfl dX2_dropWeakest_57 ?_
          refine z_top (nI j) hj ?_
          refine z_iconst h (nI 0) (by decide +kernel) dX2_dropWeakest_58 ?_
          refine z_zast h 17 j (nI 0) (ws' := zSa (zy E) p g ++ zCo (zy E) q (va_up c 1 (upd (c 1) j (nI 0)))) (by decide +kernel) rfl rfl rfl (by omega) (by decide) rfl dX2_dropWeakest_59 ?_
          exact z_vret h hf rfl rfl (by unfold dwC; rw [if_neg c_50, hjc]) dX2_dropWeakest_60
      · have k_9 : ¬ (8 ≤ i) := fun q => c_9 ((nI_leI (by omega) (by omega)).mpr q)
        refine z_aload_n h 0 rfl dX2_dropWeakest_12 ?_
        refine z_get h 16 1 3 (v := .ref (q 1)) rfl rfl iX2_dropWeakest_X2 (by decide) (List.mem_of_getElem? (i := 1) (by decide +kernel)) rfl rfl dX2_dropWeakest_13 ?_
        refine z_iload h 4 rfl dX2_dropWeakest_16 ?_
        refine z_zald h 17 i (f := c 1) rfl rfl rfl (by omega) (by decide) dX2_dropWeakest_18 ?_
        refine z_if_eq h 42 dX2_dropWeakest_19 (by decide) (fun c_19 => ?_) (fun c_19 => ?_)
        · refine z_iinc h 4 (nI (i + 1)) rfl z_i1 (by decide) (lv' := [(4, .int (nI (i + 1))), (0, .ref (q 0)), (1, .int (nI r)), (2, .ref (p 2)), (3, .int (dwI (c 2) (c 1) g r i))]) rfl dX2_dropWeakest_42 ?_
          refine z_goto h 5 dX2_dropWeakest_45 (by decide) ?_
          refine z_sub [1, 2, 3, 4, 0] (lv' := [(0, .ref (q 0)), (1, .int (nI r)), (2, .ref (p 2)), (3, .int (dwI (c 2) (c 1) g r i)), (4, .int (nI (i + 1)))]) rfl ?_
          exact z_cast (ih_5 (i + 1) (by omega) (by omega)) (by simp only [dwI, if_pos c_19] <;> rfl) rfl rfl
        · refine z_iload_n h 3 rfl dX2_dropWeakest_22 ?_
          refine z_iconst h ((-1)) (by decide +kernel) dX2_dropWeakest_23 ?_
          refine z_icmp_eq h 39 dX2_dropWeakest_24 (by decide) (fun c_24 => ?_) (fun c_24 => ?_)
          · refine z_iload h 4 rfl dX2_dropWeakest_39 ?_
            refine z_istore_n h (by decide) (lv' := [(3, .int (nI i)), (0, .ref (q 0)), (1, .int (nI r)), (2, .ref (p 2)), (4, .int (nI i))]) rfl dX2_dropWeakest_41 ?_
            refine z_iinc h 4 (nI (i + 1)) rfl z_i1 (by decide) (lv' := [(4, .int (nI (i + 1))), (3, .int (nI i)), (0, .ref (q 0)), (1, .int (nI r)), (2, .ref (p 2))]) rfl dX2_dropWeakest_42 ?_
            refine z_goto h 5 dX2_dropWeakest_45 (by decide) ?_
            refine z_sub [2, 3, 4, 1, 0] (lv' := [(0, .ref (q 0)), (1, .int (nI r)), (2, .ref (p 2)), (3, .int (nI i)), (4, .int (nI (i + 1)))]) rfl ?_
            exact z_cast (ih_5 (i + 1) (by omega) (by omega)) (by simp only [dwI, if_neg c_19, if_pos c_24] <;> rfl) rfl rfl
          · obtain ⟨j, hj8, hj⟩ := dwI_nat (c 2) (c 1) g r i (by omega) c_24
            have hjc : (dwI (c 2) (c 1) g r i).toNatClampNeg = j := by rw [hj]; exact nI_clamp (by omega)
            refine z_aload_n h 0 rfl dX2_dropWeakest_27 ?_
            refine z_iload h 4 rfl dX2_dropWeakest_28 ?_
            refine z_iload_n h 3 rfl dX2_dropWeakest_30 ?_
            refine z_top (nI j) hj ?_
            refine z_iload_n h 1 rfl dX2_dropWeakest_31 ?_
            refine z_aload_n h 2 rfl dX2_dropWeakest_32 ?_
            refine z_wV h (As := [.int (nI i), .int (nI j), .int (nI r), .ref (p 2)]) (st := []) (ws2 := zSa (zy E) p g ++ zCo (zy E) q c) (r := some (.int (nsC (c 2) (g 7) g r i j))) 4 (c_X2_isNotStronger p q g c i j r (by omega) (by omega) (by omega) hg) gX2_dropWeakest_X2_isNotStronger (q0 := 16) (ci := 1) (by decide +kernel) rfl rfl rfl ⟨by decide, by decide⟩ (Nat.le_of_ble_eq_true rfl) rfl rfl dX2_dropWeakest_33 ?_ hkR
            refine z_if_eq h 42 dX2_dropWeakest_36 (by decide) (fun c_36 => ?_) (fun c_36 => ?_)
            · refine z_iinc h 4 (nI (i + 1)) rfl z_i1 (by decide) (lv' := [(4, .int (nI (i + 1))), (0, .ref (q 0)), (1, .int (nI r)), (2, .ref (p 2)), (3, .int (dwI (c 2) (c 1) g r i))]) rfl dX2_dropWeakest_42 ?_
              refine z_goto h 5 dX2_dropWeakest_45 (by decide) ?_
              refine z_sub [1, 2, 3, 4, 0] (lv' := [(0, .ref (q 0)), (1, .int (nI r)), (2, .ref (p 2)), (3, .int (dwI (c 2) (c 1) g r i)), (4, .int (nI (i + 1)))]) rfl ?_
              exact z_cast (ih_5 (i + 1) (by omega) (by omega)) (by simp only [dwI, if_neg c_19, if_neg c_24, hjc, if_pos c_36] <;> rfl) rfl rfl
            · refine z_iload h 4 rfl dX2_dropWeakest_39 ?_
              refine z_istore_n h (by decide) (lv' := [(3, .int (nI i)), (0, .ref (q 0)), (1, .int (nI r)), (2, .ref (p 2)), (4, .int (nI i))]) rfl dX2_dropWeakest_41 ?_
              refine z_iinc h 4 (nI (i + 1)) rfl z_i1 (by decide) (lv' := [(4, .int (nI (i + 1))), (3, .int (nI i)), (0, .ref (q 0)), (1, .int (nI r)), (2, .ref (p 2))]) rfl dX2_dropWeakest_42 ?_
              refine z_goto h 5 dX2_dropWeakest_45 (by decide) ?_
              refine z_sub [2, 3, 4, 1, 0] (lv' := [(0, .ref (q 0)), (1, .int (nI r)), (2, .ref (p 2)), (3, .int (nI i)), (4, .int (nI (i + 1)))]) rfl ?_
              exact z_cast (ih_5 (i + 1) (by omega) (by omega)) (by simp only [dwI, if_neg c_19, if_neg c_24, hjc, if_neg c_36] <;> rfl) rfl rfl
  refine z_sub [2, 3, 4, 1, 0] (lv' := [(0, .ref (q 0)), (1, .int (nI r)), (2, .ref (p 2)), (3, .int (-1)), (4, .int (nI 0))]) rfl ?_
  exact z_cast (lp_5 (8 + 1) 0 (by omega) (by omega)) rfl rfl rfl

theorem iX2_take_X2 : ∀ w ∈ u_ws RX2 TX2 5, w ∈ wsX2_take := by decide +kernel
set_option maxHeartbeats 4000000 in
set_option maxRecDepth 100000 in
/-- take -/
theorem c_X2_take {l : Launch} {y : zY} {D : va_G} (p q : Nat → Nat) (g c : Nat → Nat → Int32) (hg : okH g) (hgb : okB g) : zM l y D yX2_take wsX2_take 4 94 [.ref (q 0), .ref (p 2), .ref (p 14)] (zSa y p g ++ zCo y q c) (zSa y p g ++ zCo y q (tkC g c)) (none) := by
  refine z_start (own := RX2) (cc := cX2_take) (maxL := 4) (ret := none) rfl (by decide +kernel) rfl (Nat.le_of_ble_eq_true rfl) rfl ?_
  intro E hEl hEy hED h hf
  subst hEl hEy hED
  have hkR : 0 ≤ E.2.2.2.2.2.1.cells ∧ 0 ≤ E.2.2.2.2.2.1.slots := ⟨Nat.zero_le _, Nat.zero_le _⟩
  refine z_cast (lv := [(0, .ref (q 0)), (1, .ref (p 2)), (2, .ref (p 14))]) (ws := (zSa (zy E) p g ++ zCo (zy E) q c)) (st := []) ?_ rfl rfl rfl
  refine z_aload_n h 0 rfl dX2_take_0 ?_
  refine z_iconst h (nI 0) (by decide +kernel) dX2_take_1 ?_
  refine z_put h 16 1 0 (ws' := zSa (zy E) p g ++ zCo (zy E) q (va_up c 0 (upd (c 0) 0 (nI 0)))) tyX2 .int rfl rfl iX2_take_X2 tyX2_ok nmX2 (by decide) (List.mem_of_getElem? (i := 1) (by decide +kernel)) rfl rfl (by decide +kernel) rfl rfl (Nat.le_of_ble_eq_true rfl) rfl dX2_take_2 ?_
  refine z_aload_n h 0 rfl dX2_take_5 ?_
  refine z_iconst h ((-1)) (by decide +kernel) dX2_take_6 ?_
  refine z_put h 16 1 1 (ws' := zSa (zy E) p g ++ zCo (zy E) q (va_up c 0 (upd (upd (c 0) 0 (nI 0)) 1 (-1)))) tyX2 .int rfl rfl iX2_take_X2 tyX2_ok nmX2 (by decide) (List.mem_of_getElem? (i := 2) (by decide +kernel)) rfl rfl (by decide +kernel) rfl rfl (Nat.le_of_ble_eq_true rfl) rfl dX2_take_7 ?_
  refine z_iconst h (nI 0) (by decide +kernel) dX2_take_10 ?_
  refine z_istore_n h (by decide) (lv' := [(3, .int (nI 0)), (0, .ref (q 0)), (1, .ref (p 2)), (2, .ref (p 14))]) rfl dX2_take_11 ?_
  have lp_12 : ∀ (d_12 i : Nat), 8 < i + d_12 → i ≤ 8 → Z E 0 0 [(0, .ref (q 0)), (1, .ref (p 2)), (2, .ref (p 14)), (3, .int (nI i))] (zSa (zy E) p g ++ zCo (zy E) q (va_up (va_up c 0 (upd (upd (c 0) 0 (nI 0)) 1 (-1))) 1 (sdI g (c 1) i))) 12 [] := by
    intro d_12
    induction d_12 with
    | zero => intro i  q1 q2; omega
    | succ d_12 ih_12 =>
      intro i  q1_12 q2_12 
      refine z_iload_n h 3 rfl dX2_take_12 ?_
      refine z_bipush h (nI 8) (by decide +kernel) dX2_take_13 ?_
      refine z_icmp_ge h 36 dX2_take_15 (by decide) (fun c_15 => ?_) (fun c_15 => ?_)
      · have k_15 : 8 ≤ i := (nI_leI (by omega) (by omega)).mp c_15
        obtain rfl : i = 8 := by omega
        refine z_aload_n h 1 rfl dX2_take_36 ?_
        refine z_callV h (As := []) (st := []) (ws2 := zSa (zy E) p g ++ zCo (zy E) q (va_up (va_up c 0 (upd (upd (c 0) 0 (nI 0)) 1 (-1))) 1 (sdI g (c 1) 8))) (B := zSt (zy E) (fun i => p (2 + i)) g) (B' := zSt (zy E) (fun i => p (2 + i)) g) (r := some (.int (scN g 8))) 0 (c_X4_sculptures (fun i => p (2 + i)) g) gX2_take_X4_sculptures (q0 := 2) (ci := 3) (by decide +kernel) rfl rfl rfl ⟨by decide, by decide⟩ [2, 3, 4, 5, 6, 7, 8, 9] rfl (by decide) rfl (Nat.le_of_ble_eq_true rfl) rfl rfl dX2_take_37 ?_ hkR
        refine z_if_ne h 44 dX2_take_40 (by decide) (fun c_40 => ?_) (fun c_40 => ?_)
        · refine z_iconst h (nI 0) (by decide +kernel) dX2_take_44 ?_
          refine z_istore_n h (by decide) (lv' := [(3, .int (nI 0)), (0, .ref (q 0)), (1, .ref (p 2)), (2, .ref (p 14))]) rfl dX2_take_45 ?_
          have lp_46 : ∀ (d_46 r : Nat) (c9 : Nat → Nat → Int32), 8 < r + d_46 → r ≤ 8 → (tkR g (8 - r) r c9 = tkR g 8 0 (tk0 g c)) → Z E 0 0 [(0, .ref (q 0)), (1, .ref (p 2)), (2, .ref (p 14)), (3, .int (nI r))] (zSa (zy E) p g ++ zCo (zy E) q c9) 46 [] := by
            intro d_46
            induction d_46 with
            | zero => intro r c9 q1 q2; omega
            | succ d_46 ih_46 =>
              intro r c9 q1_46 q2_46 ht
              refine z_iload_n h 3 rfl dX2_take_46 ?_
              refine z_bipush h (nI 8) (by decide +kernel) dX2_take_47 ?_
              refine z_icmp_ge h 95 dX2_take_49 (by decide) (fun c_49 => ?_) (fun c_49 => ?_)
              · have k_49 : 8 ≤ r := (nI_leI (by omega) (by omega)).mp c_49
                obtain rfl : r = 8 := by omega
                exact z_vret h hf rfl rfl (by unfold tkC; rw [if_neg c_40, ← ht]; rfl) dX2_take_95
              · have k_49 : ¬ (8 ≤ r) := fun q => c_49 ((nI_leI (by omega) (by omega)).mpr q)
                refine z_aload_n h 0 rfl dX2_take_52 ?_
                refine z_iload_n h 3 rfl dX2_take_53 ?_
                refine z_aload_n h 2 rfl dX2_take_54 ?_
                refine z_wV h (As := [.int (nI r), .ref (p 14)]) (st := []) (ws2 := zSa (zy E) p g ++ zCo (zy E) q (cvC9 g c9 r)) (r := none) 2 (c_X2_countVotes p q g c9 r (by omega) hgb) gX2_take_X2_countVotes (q0 := 16) (ci := 1) (by decide +kernel) rfl rfl rfl ⟨by decide, by decide⟩ (Nat.le_of_ble_eq_true rfl) rfl rfl dX2_take_55 ?_ hkR
                refine z_aload_n h 0 rfl dX2_take_58 ?_
                refine z_iload_n h 3 rfl dX2_take_59 ?_
                refine z_iconst h (nI 1) (by decide +kernel) dX2_take_60 ?_
                refine z_iadd h dX2_take_61 ?_
                refine z_top (nI (r + 1)) (nI_add _ _) ?_
                refine z_put h 16 1 0 (ws' := zSa (zy E) p g ++ zCo (zy E) q (va_up (cvC9 g c9 r) 0 (upd (cvC9 g c9 r 0) 0 (nI (r + 1))))) tyX2 .int rfl rfl iX2_take_X2 tyX2_ok nmX2 (by decide) (List.mem_of_getElem? (i := 1) (by decide +kernel)) rfl rfl (by decide +kernel) rfl rfl (Nat.le_of_ble_eq_true rfl) rfl dX2_take_62 ?_
                refine z_aload_n h 0 rfl dX2_take_65 ?_
                refine z_aload_n h 0 rfl dX2_take_66 ?_
                refine z_iload_n h 3 rfl dX2_take_67 ?_
                refine z_callV h (As := [.int (nI r)]) (st := [.ref (q 0)]) (ws2 := zSa (zy E) p g ++ zCo (zy E) q (va_up (cvC9 g c9 r) 0 (upd (cvC9 g c9 r 0) 0 (nI (r + 1))))) (B := zCo (zy E) q (va_up (cvC9 g c9 r) 0 (upd (cvC9 g c9 r 0) 0 (nI (r + 1))))) (B' := zCo (zy E) q (va_up (cvC9 g c9 r) 0 (upd (cvC9 g c9 r 0) 0 (nI (r + 1))))) (r := some (.int (wnC (va_up (cvC9 g c9 r) 0 (upd (cvC9 g c9 r 0) 0 (nI (r + 1)))) r))) 1 (c_X2_winnerOf q (va_up (cvC9 g c9 r) 0 (upd (cvC9 g c9 r 0) 0 (nI (r + 1)))) r (by omega)) gX2_take_X2_winnerOf (q0 := 16) (ci := 1) (by decide +kernel) rfl rfl rfl ⟨by decide, by decide⟩ [16, 17, 18] rfl (by decide) rfl (Nat.le_of_ble_eq_true rfl) rfl rfl dX2_take_68 ?_ hkR
                refine z_put h 16 1 1 (ws' := zSa (zy E) p g ++ zCo (zy E) q (va_up (cvC9 g c9 r) 0 (upd (upd (cvC9 g c9 r 0) 0 (nI (r + 1))) 1 (wnC (va_up (cvC9 g c9 r) 0 (upd (cvC9 g c9 r 0) 0 (nI (r + 1)))) r)))) tyX2 .int rfl rfl iX2_take_X2 tyX2_ok nmX2 (by decide) (List.mem_of_getElem? (i := 2) (by decide +kernel)) rfl rfl (by decide +kernel) rfl rfl (Nat.le_of_ble_eq_true rfl) rfl dX2_take_71 ?_
                refine z_aload_n h 0 rfl dX2_take_74 ?_
                refine z_get h 16 1 1 (v := .int ((upd (upd (cvC9 g c9 r 0) 0 (nI (r + 1))) 1 (wnC (va_up (cvC9 g c9 r) 0 (upd (cvC9 g c9 r 0) 0 (nI (r + 1)))) r)) 1)) rfl rfl iX2_take_X2 (by decide) (List.mem_of_getElem? (i := 2) (by decide +kernel)) rfl rfl dX2_take_75 ?_
                refine z_iconst h ((-1)) (by decide +kernel) dX2_take_78 ?_
                refine z_icmp_eq h 83 dX2_take_79 (by decide) (fun c_79 => ?_) (fun c_79 => ?_)
                · refine z_aload_n h 0 rfl dX2_take_83 ?_
                  refine z_iload_n h 3 rfl dX2_take_84 ?_
                  refine z_aload_n h 1 rfl dX2_take_85 ?_
                  refine z_wV h (As := [.int (nI r), .ref (p 2)]) (st := []) (ws2 := zSa (zy E) p g ++ zCo (zy E) q (dwC g (va_up (cvC9 g c9 r) 0 (upd (upd (cvC9 g c9 r 0) 0 (nI (r + 1))) 1 (wnC (va_up (cvC9 g c9 r) 0 (upd (cvC9 g c9 r 0) 0 (nI (r + 1)))) r))) r)) (r := none) 2 (c_X2_dropWeakest p q g (va_up (cvC9 g c9 r) 0 (upd (upd (cvC9 g c9 r 0) 0 (nI (r + 1))) 1 (wnC (va_up (cvC9 g c9 r) 0 (upd (cvC9 g c9 r 0) 0 (nI (r + 1)))) r))) r (by omega) hg) gX2_take_X2_dropWeakest (q0 := 16) (ci := 1) (by decide +kernel) rfl rfl rfl ⟨by decide, by decide⟩ (Nat.le_of_ble_eq_true rfl) rfl rfl dX2_take_86 ?_ hkR
                  refine z_iinc h 3 (nI (r + 1)) rfl z_i1 (by decide) (lv' := [(3, .int (nI (r + 1))), (0, .ref (q 0)), (1, .ref (p 2)), (2, .ref (p 14))]) rfl dX2_take_89 ?_
                  refine z_goto h 46 dX2_take_92 (by decide) ?_
                  refine z_sub [1, 2, 3, 0] (lv' := [(0, .ref (q 0)), (1, .ref (p 2)), (2, .ref (p 14)), (3, .int (nI (r + 1)))]) rfl ?_
                  exact z_cast (ih_46 (r + 1) (dwC g (rhC (cvC9 g c9 r) r) r) (by omega) (by omega) ((tk_step rfl (by omega) ht).1 c_79)) rfl rfl rfl
                · exact z_vret h hf rfl rfl (by unfold tkC; rw [if_neg c_40, (tk_step rfl (by omega) ht).2 c_79]; rfl) dX2_take_82
          refine z_sub [1, 2, 3, 0] (lv' := [(0, .ref (q 0)), (1, .ref (p 2)), (2, .ref (p 14)), (3, .int (nI 0))]) rfl ?_
          exact z_cast (lp_46 (8 + 1) 0 (tk0 g c) (by omega) (by omega) rfl) rfl rfl rfl
        · exact z_vret h hf rfl rfl (by unfold tkC; rw [if_pos c_40]; rfl) dX2_take_43
      · have k_15 : ¬ (8 ≤ i) := fun q => c_15 ((nI_leI (by omega) (by omega)).mpr q)
        refine z_aload_n h 0 rfl dX2_take_18 ?_
        refine z_get h 16 1 3 (v := .ref (q 1)) rfl rfl iX2_take_X2 (by decide) (List.mem_of_getElem? (i := 3) (by decide +kernel)) rfl rfl dX2_take_19 ?_
        refine z_iload_n h 3 rfl dX2_take_22 ?_
        refine z_aload_n h 1 rfl dX2_take_23 ?_
        refine z_iload_n h 3 rfl dX2_take_24 ?_
        refine z_iconst h (nI 0) (by decide +kernel) dX2_take_25 ?_
        refine z_callV h (As := [.int (nI i), .int (nI 0)]) (st := [.int (nI i), .ref (q 1)]) (ws2 := zSa (zy E) p g ++ zCo (zy E) q (va_up (va_up c 0 (upd (upd (c 0) 0 (nI 0)) 1 (-1))) 1 (sdI g (c 1) i))) (B := zSt (zy E) (fun i => p (2 + i)) g) (B' := zSt (zy E) (fun i => p (2 + i)) g) (r := some (.int (hbl g (nI i) (nI 0)))) 2 (c_X4_hasBlock (fun i => p (2 + i)) g (nI i) (nI 0)) gX2_take_X4_hasBlock (q0 := 2) (ci := 3) (by decide +kernel) rfl rfl rfl ⟨by decide, by decide⟩ [2, 3, 4, 5, 6, 7, 8, 9] rfl (by decide) rfl (Nat.le_of_ble_eq_true rfl) rfl rfl dX2_take_26 ?_ hkR
        refine z_zast h 17 i (hbl g (nI i) (nI 0)) (ws' := zSa (zy E) p g ++ zCo (zy E) q (va_up (va_up c 0 (upd (upd (c 0) 0 (nI 0)) 1 (-1))) 1 (upd (sdI g (c 1) i) i (hbl g (nI i) (nI 0))))) (nar_z (hbl_01 _ _ _)) rfl rfl rfl (by omega) (by decide) rfl dX2_take_29 ?_
        refine z_iinc h 3 (nI (i + 1)) rfl z_i1 (by decide) (lv' := [(3, .int (nI (i + 1))), (0, .ref (q 0)), (1, .ref (p 2)), (2, .ref (p 14))]) rfl dX2_take_30 ?_
        refine z_goto h 12 dX2_take_33 (by decide) ?_
        refine z_sub [1, 2, 3, 0] (lv' := [(0, .ref (q 0)), (1, .ref (p 2)), (2, .ref (p 14)), (3, .int (nI (i + 1)))]) rfl ?_
        exact z_cast (ih_12 (i + 1) (by omega) (by omega)) rfl rfl rfl
  refine z_sub [1, 2, 3, 0] (lv' := [(0, .ref (q 0)), (1, .ref (p 2)), (2, .ref (p 14)), (3, .int (nI 0))]) rfl ?_
  exact z_cast (lp_12 (8 + 1) 0 (by omega) (by omega)) rfl rfl rfl

