/-! the model's ballots and their count -/
def zbm (f : Nat → Int32) : Nat := (f 11).toNatClampNeg
def okBm (f : Nat → Int32) : Prop := f 11 = nI (zbm f) ∧ zbm f ≤ 20
def okCh (f : Nat → Int32) : Prop := ∀ b, b < zbm f → ∀ k, k < 3 → ¬ f (155 + 3 * b + k) = (-1) → ∃ j, j < 8 ∧ f (155 + 3 * b + k) = nI j
def nmE (a b c : Int32) : Int32 := if isS a = 0 then nI 0 else if b = (-1) then (if c = (-1) then nI 1 else nI 0) else if isS b = 0 then nI 0 else if c = (-1) then nI 1 else if isS c = 0 then nI 0 else nI 1
def unE (a b c : Int32) : Int32 := if a = b then nI 0 else if a = c then nI 0 else if b = c then (if b = (-1) then nI 1 else nI 0) else nI 1
def btT (f : Nat → Int32) (a b c : Int32) : Nat := if nmE a b c = 0 then 1 else if unE a b c = 0 then 1 else if nI 20 ≤ f 11 then 2 else 0
def btF (f : Nat → Int32) (a b c : Int32) : Nat → Int32 := upd (upd (upd (upd f (155 + 3 * zbm f) a) (155 + 3 * zbm f + 1) b) (155 + 3 * zbm f + 2) c) 11 (nI (zbm f + 1))
def stB (x : Int32) (y : Int32) : Int32 := (x >>> (y &&& 31)) &&& nI 1
def cvI (V : Nat → Int32) (r : Nat) (x : Int32) : Nat → Nat → Int32
  | 0 => V
  | s + 1 => upd (cvI V r x s) (8 * r + s) (if stB x (nI s) = nI 1 then nI 0 else (-1))
def faR (f : Nat → Int32) (x : Int32) (b : Nat) : Nat → Nat → Nat
  | 0, a => a
  | k + 1, a => if f (155 + 3 * b + a) = (-1) then faR f x b k (a + 1) else if stB x (f (155 + 3 * b + a)) = 0 then faR f x b k (a + 1) else a
def faC (f : Nat → Int32) (x : Int32) (b : Nat) : Nat := faR f x b 3 0
theorem fa_step {f : Nat → Int32} {x : Int32} {b a R : Nat} (ha : a < 3) (h : faR f x b (3 - a) a = R) : (f (155 + 3 * b + a) = (-1) → faR f x b (3 - (a + 1)) (a + 1) = R) ∧ (¬ f (155 + 3 * b + a) = (-1) → stB x (f (155 + 3 * b + a)) = 0 → faR f x b (3 - (a + 1)) (a + 1) = R) ∧ (¬ f (155 + 3 * b + a) = (-1) → ¬ stB x (f (155 + 3 * b + a)) = 0 → R = a) := by
  subst h
  rw [show 3 - a = (3 - (a + 1)) + 1 by omega]
  exact ⟨fun c => (if_pos c).symm, fun c d => ((if_neg c).trans (if_pos d)).symm, fun c d => (if_neg c).trans (if_neg d)⟩
def crI (V f : Nat → Int32) (r : Nat) (x : Int32) : Nat → (Nat → Int32) × Int32
  | 0 => (cvI V r x 8, nI 0)
  | b + 1 => if faC f x b < 3 then (upd (crI V f r x b).1 (8 * r + (f (155 + 3 * b + faC f x b)).toNatClampNeg) ((crI V f r x b).1 (8 * r + (f (155 + 3 * b + faC f x b)).toNatClampNeg) + nI 1), (crI V f r x b).2 + nI 1) else crI V f r x b
def crC9 (h : Nat → Nat → Int32) (r : Nat) (x : Int32) : (Nat → Int32) × Int32 := crI (h 4) (h 1) r x (zbm (h 1))
def iwM (V f : Nat → Int32) (r s w : Nat) : Int32 := if V (8 * r + s) = V (8 * r + w) then (if vmS f s (zhm f s) = vmS f w (zhm f w) then (if s ≤ w then nI 0 else nI 1) else if vmS f w (zhm f w) ≤ vmS f s (zhm f s) then nI 0 else nI 1) else if V (8 * r + w) ≤ V (8 * r + s) then nI 0 else nI 1
theorem iwM_nz (V f : Nat → Int32) (r s w : Nat) : narrow .boolean (.int (iwM V f r s w)) = .int (iwM V f r s w) := by
  unfold iwM
  split
  · split
    · split <;> decide +kernel
    · split <;> decide +kernel
  · split <;> decide +kernel
def cxM (f : Nat → Int32) : Nat → Int32
  | 0 => nI 0
  | s + 1 => cxM f s ||| (if f (12 + s) ≤ 0 then nI 0 else nI 1 <<< (nI s &&& 31))
def cmM (f : Nat → Int32) : Nat → Nat
  | 0 => 0
  | s + 1 => cmM f s + (if f (12 + s) ≤ 0 then 0 else 1)
theorem cmM_le (f : Nat → Int32) : ∀ s, cmM f s ≤ s
  | 0 => Nat.le_refl 0
  | s + 1 => by
    have := cmM_le f s
    unfold cmM
    split <;> omega
theorem cmM_e (f : Nat → Int32) (s : Nat) : nI (cmM f s) + (if f (12 + s) ≤ 0 then nI 0 else nI 1) = nI (cmM f (s + 1)) := by
  rw [cmM]
  split
  · rw [nI_add]
  · rw [nI_add]
def scI (V f : Nat → Int32) (t m : Nat) (x n W : Int32) : Nat → Int32 × Int32
  | 0 => (W, (-1))
  | i + 1 => if stB x (nI i) = nI 1 then ((if m = 1 then nI i else if nI 2 * V (8 * t + i) ≤ n then (scI V f t m x n W i).1 else nI i), (if (scI V f t m x n W i).2 = (-1) then nI i else if iwM V f t i (scI V f t m x n W i).2.toNatClampNeg = 0 then (scI V f t m x n W i).2 else nI i)) else scI V f t m x n W i
theorem scI_nat (V f : Nat → Int32) (t m : Nat) (x n W : Int32) : ∀ i, i ≤ 8 → ¬ (scI V f t m x n W i).2 = (-1) → ∃ j, j < i ∧ (scI V f t m x n W i).2 = nI j
  | 0, _, h => absurd rfl h
  | i + 1, hi, h => by
    unfold scI at h ⊢
    by_cases h1 : stB x (nI i) = nI 1
    · rw [if_pos h1] at h ⊢
      dsimp only at h ⊢
      by_cases h2 : (scI V f t m x n W i).2 = (-1)
      · rw [if_pos h2]
        exact ⟨i, by omega, rfl⟩
      · rw [if_neg h2] at h ⊢
        obtain ⟨j, q1, q2⟩ := scI_nat V f t m x n W i (by omega) h2
        split
        · exact ⟨j, by omega, q2⟩
        · exact ⟨i, by omega, rfl⟩
    · rw [if_neg h1] at h ⊢
      obtain ⟨j, q1, q2⟩ := scI_nat V f t m x n W i (by omega) h
      exact ⟨j, by omega, q2⟩
def ctR (f : Nat → Int32) : Nat → Nat → Nat → Int32 → Int32 → (Nat → Int32) → Nat × Int32 × (Nat → Int32)
  | 0, t, _, _, W, V => (t, W, V)
  | k + 1, t, m, x, W, V => if m = 0 then (t, W, V) else if W = (-1) then ctR f k (t + 1) (m - 1) (x &&& ((nI 1 <<< ((scI (crI V f t x (zbm f)).1 f t m x (crI V f t x (zbm f)).2 W 8).2 &&& 31)) ^^^ (-1))) (scI (crI V f t x (zbm f)).1 f t m x (crI V f t x (zbm f)).2 W 8).1 (crI V f t x (zbm f)).1 else (t, W, V)
def ctC (h : Nat → Nat → Int32) : Nat × Int32 × (Nat → Int32) := ctR (h 1) 8 0 (cmM (h 1) 8) (cxM (h 1) 8) (-1) (h 4)
def ctG9 (h : Nat → Nat → Int32) : Nat → Nat → Int32 := va_up (va_up h 0 (upd (upd (h 0) 2 (nI (ctC h).1)) 3 (ctC h).2.1)) 4 (ctC h).2.2
theorem ct_step {f : Nat → Int32} {t m : Nat} {x W : Int32} {V : Nat → Int32} {R : Nat × Int32 × (Nat → Int32)} (ht : t + m ≤ 8) (h : ctR f (8 - t) t m x W V = R) : (m = 0 → R = (t, W, V)) ∧ (¬ W = (-1) → R = (t, W, V)) ∧ (¬ m = 0 → W = (-1) → ctR f (8 - (t + 1)) (t + 1) (m - 1) (x &&& ((nI 1 <<< ((scI (crI V f t x (zbm f)).1 f t m x (crI V f t x (zbm f)).2 W 8).2 &&& 31)) ^^^ (-1))) (scI (crI V f t x (zbm f)).1 f t m x (crI V f t x (zbm f)).2 W 8).1 (crI V f t x (zbm f)).1 = R) := by
  subst h
  cases hk : 8 - t with
  | zero => exact ⟨fun _ => rfl, fun _ => rfl, fun c => absurd (by omega) c⟩
  | succ k =>
    rw [show 8 - (t + 1) = k by omega]
    refine ⟨fun c => if_pos c, fun c => ?_, fun c d => ((if_neg c).trans (if_pos d)).symm⟩
    by_cases q : m = 0
    · exact if_pos q
    · exact (if_neg q).trans (if_neg c)
theorem nI_n31 {r : Nat} (hr : r < 2 ^ 32) (h : ¬ nI r < 0) : r < 2 ^ 31 := by
  obtain ⟨j, hj, e⟩ := nI_of h
  have e2 : r = j := by
    have := congrArg (fun v : Int32 => v.toBitVec.toNat) e
    simp only [pk_tn hr, pk_tn (show j < 2 ^ 32 by omega)] at this
    exact this
  omega
theorem ctR_le (f : Nat → Int32) : ∀ k t m x W V, t + k ≤ 8 → (ctR f k t m x W V).1 ≤ 8
  | 0, t, m, x, W, V, h => h
  | k + 1, t, m, x, W, V, h => by
    unfold ctR
    split
    · show t ≤ 8; omega
    · split
      · exact ctR_le f k (t + 1) _ _ _ _ (by omega)
      · show t ≤ 8; omega
theorem ctC_le (h : Nat → Nat → Int32) : (ctC h).1 ≤ 8 := ctR_le (h 1) 8 0 _ _ _ _ (Nat.le_refl 8)
theorem nI_dec {m : Nat} (h : ¬ m = 0) : nI m + Int32.ofInt (-1) = nI (m - 1) := by
  obtain ⟨k, rfl⟩ : ∃ k, m = k + 1 := ⟨m - 1, by omega⟩
  rw [← nI_add k 1, Int32.add_assoc, show nI 1 + Int32.ofInt (-1) = 0 by decide +kernel, Int32.add_zero]
  rfl
def vtT (x y : Int32) : Nat := if x < 0 then 1 else if isS y = 0 then 2 else 0
theorem iX10_ballot_X10 : ∀ w ∈ u_ws RX10 TX10 15, w ∈ wsX10_ballot := by decide +kernel
set_option maxHeartbeats 4000000 in
set_option maxRecDepth 100000 in
/-- ballot -/
theorem c_X10_ballot {l : Launch} {y : zY} {D : va_G} (q : Nat → Nat) (h : Nat → Nat → Int32) (a b c : Int32) (hB : okBm (h 1)) (m : Nat) (hsv : h 0 0 = nI m) (hm4 : m ≤ 4) : zM l y D yX10_ballot wsX10_ballot 2 42 [.ref (q 0), .int a, .int b, .int c] (zMo y q h) (zMo y q (mxG h (btT (h 1) a b c) (va_up (svG (h0t h) m) 1 (btF (h 1) a b c)))) (some (.int (if btT (h 1) a b c = 0 then nI (zbm (h 1) + 1) else nI 0))) := by
  refine z_start (own := RX10) (cc := cX10_ballot) (maxL := 7) (ret := (some .int)) rfl (by decide +kernel) rfl (Nat.le_of_ble_eq_true rfl) (zMo_fst _ _ _ _) ?_
  intro E hEl hEy hED hC hf
  subst hEl hEy hED
  have hkR : 0 ≤ E.2.2.2.2.2.1.cells ∧ 0 ≤ E.2.2.2.2.2.1.slots := ⟨Nat.zero_le _, Nat.zero_le _⟩
  refine z_cast (lv := [(0, .ref (q 0)), (1, .int a), (2, .int b), (3, .int c)]) (ws := (zMo (zy E) q h)) (st := []) ?_ rfl rfl rfl
  have j_70 : Z E 0 0 [(5, .int (unE a b c)), (4, .int (nmE a b c)), (0, .ref (q 0)), (1, .int a), (2, .int b), (3, .int c)] (zMo (zy E) q h) 70 [] := by
    refine z_aload_n hC 2 rfl dX10_ballot_70 ?_
    refine z_iload hC 1 rfl dX10_ballot_71 ?_
    refine z_if_eq hC 85 dX10_ballot_73 (by decide) (fun c_73 => ?_) (fun c_73 => ?_)
    · refine z_iconst hC (nI 0) (by decide +kernel) dX10_ballot_85 ?_
      refine z_aload_n hC 2 rfl dX10_ballot_86 ?_
      refine z_get hC 0 8 0 (v := .ref (q 1)) rfl rfl iX10_ballot_X10 (by decide) (List.mem_of_getElem? (i := 1) (by decide +kernel)) rfl rfl dX10_ballot_87 ?_
      refine z_bipush hC (nI 11) (by decide +kernel) dX10_ballot_90 ?_
      refine z_iald hC 1 11 (f := h 1) rfl rfl rfl (by omega) (by decide) dX10_ballot_92 ?_
      refine z_bipush hC (nI 20) (by decide +kernel) dX10_ballot_93 ?_
      refine z_icmp_ge hC 102 dX10_ballot_95 (by decide) (fun c_95 => ?_) (fun c_95 => ?_)
      · refine z_iconst hC (nI 0) (by decide +kernel) dX10_ballot_102 ?_
        refine z_iconst hC (nI 1) (by decide +kernel) dX10_ballot_103 ?_
        refine z_callV hC (As := [.int (nI 0), .int (nI 0), .int (nI 1)]) (st := []) (ws2 := zMo (zy E) q (flG h (nI 0) (nI 0) (nI 1))) (B := zMo (zy E) q h) (B' := zMo (zy E) q (flG h (nI 0) (nI 0) (nI 1))) (r := some (.int (flR (nI 0) (nI 0) (nI 1)))) 3 (c_X10_fails q h (nI 0) (nI 0) (nI 1)) gX10_ballot_X10_fails (q0 := 0) (ci := 8) (by decide +kernel) rfl rfl rfl ⟨by decide, by decide⟩ [0, 1, 2, 3, 4, 5, 6] rfl (by decide) rfl (Nat.le_of_ble_eq_true rfl) rfl rfl dX10_ballot_104 ?_ hkR
        have pf_1 : flV (nI 0) (nI 0) (nI 1) = nI 1 := by rw [flV, if_pos (show nI 0 = 0 by decide +kernel)]
        refine z_top (nI 1) (by rw [flR, pf_1]; first | done | decide +kernel) ?_
        refine z_cast (lv := [(5, .int (unE a b c)), (4, .int (nmE a b c)), (0, .ref (q 0)), (1, .int a), (2, .int b), (3, .int c)]) (ws := (zMo (zy E) q (va_up h 0 (upd (h 0) 1 (nI 1))))) (st := [.int (nI 1)]) ?_ rfl (by rw [flG, pf_1]) rfl
        refine z_if_eq hC 112 dX10_ballot_107 (by decide) (fun c_107 => ?_) (fun c_107 => ?_)
        · exact absurd c_107 (by decide +kernel)
        · refine z_iconst hC (nI 0) (by decide +kernel) dX10_ballot_110 ?_
          have pT : btT (h 1) a b c = 1 := by simp only [btT, if_pos c_73, if_pos c_95]
          exact z_iret hC hf rfl (by rw [pT]; rfl) (by unfold mxG; rw [pT]; rfl) dX10_ballot_111
      · have hz5 : zbm (h 1) < 20 := by rw [hB.1, nI_leI (by omega) (by have := hB.2; omega)] at c_95; omega
        refine z_iconst hC (nI 1) (by decide +kernel) dX10_ballot_98 ?_
        refine z_goto hC 103 dX10_ballot_99 (by decide) ?_
        refine z_iconst hC (nI 1) (by decide +kernel) dX10_ballot_103 ?_
        refine z_callV hC (As := [.int (nI 0), .int (nI 1), .int (nI 1)]) (st := []) (ws2 := zMo (zy E) q (flG h (nI 0) (nI 1) (nI 1))) (B := zMo (zy E) q h) (B' := zMo (zy E) q (flG h (nI 0) (nI 1) (nI 1))) (r := some (.int (flR (nI 0) (nI 1) (nI 1)))) 3 (c_X10_fails q h (nI 0) (nI 1) (nI 1)) gX10_ballot_X10_fails (q0 := 0) (ci := 8) (by decide +kernel) rfl rfl rfl ⟨by decide, by decide⟩ [0, 1, 2, 3, 4, 5, 6] rfl (by decide) rfl (Nat.le_of_ble_eq_true rfl) rfl rfl dX10_ballot_104 ?_ hkR
        have pf_2 : flV (nI 0) (nI 1) (nI 1) = nI 1 := by rw [flV, if_pos (show nI 0 = 0 by decide +kernel)]
        refine z_top (nI 1) (by rw [flR, pf_2]; first | done | decide +kernel) ?_
        refine z_cast (lv := [(5, .int (unE a b c)), (4, .int (nmE a b c)), (0, .ref (q 0)), (1, .int a), (2, .int b), (3, .int c)]) (ws := (zMo (zy E) q (va_up h 0 (upd (h 0) 1 (nI 1))))) (st := [.int (nI 1)]) ?_ rfl (by rw [flG, pf_2]) rfl
        refine z_if_eq hC 112 dX10_ballot_107 (by decide) (fun c_107 => ?_) (fun c_107 => ?_)
        · exact absurd c_107 (by decide +kernel)
        · refine z_iconst hC (nI 0) (by decide +kernel) dX10_ballot_110 ?_
          have pT : btT (h 1) a b c = 1 := by simp only [btT, if_pos c_73, if_neg c_95]
          exact z_iret hC hf rfl (by rw [pT]; rfl) (by unfold mxG; rw [pT]; rfl) dX10_ballot_111
    · refine z_iload hC 0 rfl dX10_ballot_76 ?_
      refine z_if_eq hC 85 dX10_ballot_78 (by decide) (fun c_78 => ?_) (fun c_78 => ?_)
      · refine z_iconst hC (nI 0) (by decide +kernel) dX10_ballot_85 ?_
        refine z_aload_n hC 2 rfl dX10_ballot_86 ?_
        refine z_get hC 0 8 0 (v := .ref (q 1)) rfl rfl iX10_ballot_X10 (by decide) (List.mem_of_getElem? (i := 1) (by decide +kernel)) rfl rfl dX10_ballot_87 ?_
        refine z_bipush hC (nI 11) (by decide +kernel) dX10_ballot_90 ?_
        refine z_iald hC 1 11 (f := h 1) rfl rfl rfl (by omega) (by decide) dX10_ballot_92 ?_
        refine z_bipush hC (nI 20) (by decide +kernel) dX10_ballot_93 ?_
        refine z_icmp_ge hC 102 dX10_ballot_95 (by decide) (fun c_95 => ?_) (fun c_95 => ?_)
        · refine z_iconst hC (nI 0) (by decide +kernel) dX10_ballot_102 ?_
          refine z_iconst hC (nI 1) (by decide +kernel) dX10_ballot_103 ?_
          refine z_callV hC (As := [.int (nI 0), .int (nI 0), .int (nI 1)]) (st := []) (ws2 := zMo (zy E) q (flG h (nI 0) (nI 0) (nI 1))) (B := zMo (zy E) q h) (B' := zMo (zy E) q (flG h (nI 0) (nI 0) (nI 1))) (r := some (.int (flR (nI 0) (nI 0) (nI 1)))) 3 (c_X10_fails q h (nI 0) (nI 0) (nI 1)) gX10_ballot_X10_fails (q0 := 0) (ci := 8) (by decide +kernel) rfl rfl rfl ⟨by decide, by decide⟩ [0, 1, 2, 3, 4, 5, 6] rfl (by decide) rfl (Nat.le_of_ble_eq_true rfl) rfl rfl dX10_ballot_104 ?_ hkR
          have pf_3 : flV (nI 0) (nI 0) (nI 1) = nI 1 := by rw [flV, if_pos (show nI 0 = 0 by decide +kernel)]
          refine z_top (nI 1) (by rw [flR, pf_3]; first | done | decide +kernel) ?_
          refine z_cast (lv := [(5, .int (unE a b c)), (4, .int (nmE a b c)), (0, .ref (q 0)), (1, .int a), (2, .int b), (3, .int c)]) (ws := (zMo (zy E) q (va_up h 0 (upd (h 0) 1 (nI 1))))) (st := [.int (nI 1)]) ?_ rfl (by rw [flG, pf_3]) rfl
          refine z_if_eq hC 112 dX10_ballot_107 (by decide) (fun c_107 => ?_) (fun c_107 => ?_)
          · exact absurd c_107 (by decide +kernel)
          · refine z_iconst hC (nI 0) (by decide +kernel) dX10_ballot_110 ?_
            have pT : btT (h 1) a b c = 1 := by simp only [btT, if_neg c_73, if_pos c_78, if_pos c_95]
            exact z_iret hC hf rfl (by rw [pT]; rfl) (by unfold mxG; rw [pT]; rfl) dX10_ballot_111
        · have hz5 : zbm (h 1) < 20 := by rw [hB.1, nI_leI (by omega) (by have := hB.2; omega)] at c_95; omega
          refine z_iconst hC (nI 1) (by decide +kernel) dX10_ballot_98 ?_
          refine z_goto hC 103 dX10_ballot_99 (by decide) ?_
          refine z_iconst hC (nI 1) (by decide +kernel) dX10_ballot_103 ?_
          refine z_callV hC (As := [.int (nI 0), .int (nI 1), .int (nI 1)]) (st := []) (ws2 := zMo (zy E) q (flG h (nI 0) (nI 1) (nI 1))) (B := zMo (zy E) q h) (B' := zMo (zy E) q (flG h (nI 0) (nI 1) (nI 1))) (r := some (.int (flR (nI 0) (nI 1) (nI 1)))) 3 (c_X10_fails q h (nI 0) (nI 1) (nI 1)) gX10_ballot_X10_fails (q0 := 0) (ci := 8) (by decide +kernel) rfl rfl rfl ⟨by decide, by decide⟩ [0, 1, 2, 3, 4, 5, 6] rfl (by decide) rfl (Nat.le_of_ble_eq_true rfl) rfl rfl dX10_ballot_104 ?_ hkR
          have pf_4 : flV (nI 0) (nI 1) (nI 1) = nI 1 := by rw [flV, if_pos (show nI 0 = 0 by decide +kernel)]
          refine z_top (nI 1) (by rw [flR, pf_4]; first | done | decide +kernel) ?_
          refine z_cast (lv := [(5, .int (unE a b c)), (4, .int (nmE a b c)), (0, .ref (q 0)), (1, .int a), (2, .int b), (3, .int c)]) (ws := (zMo (zy E) q (va_up h 0 (upd (h 0) 1 (nI 1))))) (st := [.int (nI 1)]) ?_ rfl (by rw [flG, pf_4]) rfl
          refine z_if_eq hC 112 dX10_ballot_107 (by decide) (fun c_107 => ?_) (fun c_107 => ?_)
          · exact absurd c_107 (by decide +kernel)
          · refine z_iconst hC (nI 0) (by decide +kernel) dX10_ballot_110 ?_
            have pT : btT (h 1) a b c = 1 := by simp only [btT, if_neg c_73, if_pos c_78, if_neg c_95]
            exact z_iret hC hf rfl (by rw [pT]; rfl) (by unfold mxG; rw [pT]; rfl) dX10_ballot_111
      · refine z_iconst hC (nI 1) (by decide +kernel) dX10_ballot_81 ?_
        refine z_goto hC 86 dX10_ballot_82 (by decide) ?_
        refine z_aload_n hC 2 rfl dX10_ballot_86 ?_
        refine z_get hC 0 8 0 (v := .ref (q 1)) rfl rfl iX10_ballot_X10 (by decide) (List.mem_of_getElem? (i := 1) (by decide +kernel)) rfl rfl dX10_ballot_87 ?_
        refine z_bipush hC (nI 11) (by decide +kernel) dX10_ballot_90 ?_
        refine z_iald hC 1 11 (f := h 1) rfl rfl rfl (by omega) (by decide) dX10_ballot_92 ?_
        refine z_bipush hC (nI 20) (by decide +kernel) dX10_ballot_93 ?_
        refine z_icmp_ge hC 102 dX10_ballot_95 (by decide) (fun c_95 => ?_) (fun c_95 => ?_)
        · refine z_iconst hC (nI 0) (by decide +kernel) dX10_ballot_102 ?_
          refine z_iconst hC (nI 1) (by decide +kernel) dX10_ballot_103 ?_
          refine z_callV hC (As := [.int (nI 1), .int (nI 0), .int (nI 1)]) (st := []) (ws2 := zMo (zy E) q (flG h (nI 1) (nI 0) (nI 1))) (B := zMo (zy E) q h) (B' := zMo (zy E) q (flG h (nI 1) (nI 0) (nI 1))) (r := some (.int (flR (nI 1) (nI 0) (nI 1)))) 3 (c_X10_fails q h (nI 1) (nI 0) (nI 1)) gX10_ballot_X10_fails (q0 := 0) (ci := 8) (by decide +kernel) rfl rfl rfl ⟨by decide, by decide⟩ [0, 1, 2, 3, 4, 5, 6] rfl (by decide) rfl (Nat.le_of_ble_eq_true rfl) rfl rfl dX10_ballot_104 ?_ hkR
          have pf_5 : flV (nI 1) (nI 0) (nI 1) = nI 2 := by rw [flV, if_neg (show ¬ nI 1 = 0 by decide +kernel), if_pos (show nI 0 = 0 by decide +kernel)]
          refine z_top (nI 1) (by rw [flR, pf_5]; first | done | decide +kernel) ?_
          refine z_cast (lv := [(5, .int (unE a b c)), (4, .int (nmE a b c)), (0, .ref (q 0)), (1, .int a), (2, .int b), (3, .int c)]) (ws := (zMo (zy E) q (va_up h 0 (upd (h 0) 1 (nI 2))))) (st := [.int (nI 1)]) ?_ rfl (by rw [flG, pf_5]) rfl
          refine z_if_eq hC 112 dX10_ballot_107 (by decide) (fun c_107 => ?_) (fun c_107 => ?_)
          · exact absurd c_107 (by decide +kernel)
          · refine z_iconst hC (nI 0) (by decide +kernel) dX10_ballot_110 ?_
            have pT : btT (h 1) a b c = 2 := by simp only [btT, if_neg c_73, if_neg c_78, if_pos c_95]
            exact z_iret hC hf rfl (by rw [pT]; rfl) (by unfold mxG; rw [pT]; rfl) dX10_ballot_111
        · have hz5 : zbm (h 1) < 20 := by rw [hB.1, nI_leI (by omega) (by have := hB.2; omega)] at c_95; omega
          refine z_iconst hC (nI 1) (by decide +kernel) dX10_ballot_98 ?_
          refine z_goto hC 103 dX10_ballot_99 (by decide) ?_
          refine z_iconst hC (nI 1) (by decide +kernel) dX10_ballot_103 ?_
          refine z_callV hC (As := [.int (nI 1), .int (nI 1), .int (nI 1)]) (st := []) (ws2 := zMo (zy E) q (flG h (nI 1) (nI 1) (nI 1))) (B := zMo (zy E) q h) (B' := zMo (zy E) q (flG h (nI 1) (nI 1) (nI 1))) (r := some (.int (flR (nI 1) (nI 1) (nI 1)))) 3 (c_X10_fails q h (nI 1) (nI 1) (nI 1)) gX10_ballot_X10_fails (q0 := 0) (ci := 8) (by decide +kernel) rfl rfl rfl ⟨by decide, by decide⟩ [0, 1, 2, 3, 4, 5, 6] rfl (by decide) rfl (Nat.le_of_ble_eq_true rfl) rfl rfl dX10_ballot_104 ?_ hkR
          have pf_6 : flV (nI 1) (nI 1) (nI 1) = nI 0 := by rw [flV, if_neg (show ¬ nI 1 = 0 by decide +kernel), if_neg (show ¬ nI 1 = 0 by decide +kernel), if_neg (show ¬ nI 1 = 0 by decide +kernel)]
          refine z_top (nI 0) (by rw [flR, pf_6]; first | done | decide +kernel) ?_
          refine z_cast (lv := [(5, .int (unE a b c)), (4, .int (nmE a b c)), (0, .ref (q 0)), (1, .int a), (2, .int b), (3, .int c)]) (ws := (zMo (zy E) q (va_up h 0 (upd (h 0) 1 (nI 0))))) (st := [.int (nI 0)]) ?_ rfl (by rw [flG, pf_6]) rfl
          refine z_if_eq hC 112 dX10_ballot_107 (by decide) (fun c_107 => ?_) (fun c_107 => ?_)
          · refine z_aload_n hC 2 rfl dX10_ballot_112 ?_
            refine z_callV hC (As := []) (st := []) (ws2 := zMo (zy E) q (svG (va_up h 0 (upd (h 0) 1 (nI 0))) m)) (B := zMo (zy E) q (va_up h 0 (upd (h 0) 1 (nI 0)))) (B' := zMo (zy E) q (svG (va_up h 0 (upd (h 0) 1 (nI 0))) m)) (r := none) 0 (c_X10_save q (va_up h 0 (upd (h 0) 1 (nI 0))) m hsv hm4) gX10_ballot_X10_save (q0 := 0) (ci := 8) (by decide +kernel) rfl rfl rfl ⟨by decide, by decide⟩ [0, 1, 2, 3, 4, 5, 6] rfl (by decide) rfl (Nat.le_of_ble_eq_true rfl) rfl rfl dX10_ballot_113 ?_ hkR
            refine z_sipush hC (nI 155) (by decide +kernel) dX10_ballot_116 ?_
            refine z_iconst hC (nI 3) (by decide +kernel) dX10_ballot_119 ?_
            refine z_aload_n hC 2 rfl dX10_ballot_120 ?_
            refine z_get hC 0 8 0 (v := .ref (q 1)) rfl rfl iX10_ballot_X10 (by decide) (List.mem_of_getElem? (i := 1) (by decide +kernel)) rfl rfl dX10_ballot_121 ?_
            refine z_bipush hC (nI 11) (by decide +kernel) dX10_ballot_124 ?_
            refine z_iald hC 1 11 (f := h 1) rfl rfl rfl (by omega) (by decide) dX10_ballot_126 ?_
            refine z_top (nI (zbm (h 1))) hB.1 ?_
            refine z_imul hC dX10_ballot_127 ?_
            refine z_top (nI (3 * (zbm (h 1)))) (pk_mul _ _) ?_
            refine z_iadd hC dX10_ballot_128 ?_
            refine z_top (nI (155 + (3 * (zbm (h 1))))) (nI_add _ _) ?_
            refine z_istore hC (by decide) (lv' := [(6, .int (nI (155 + (3 * (zbm (h 1)))))), (5, .int (unE a b c)), (4, .int (nmE a b c)), (0, .ref (q 0)), (1, .int a), (2, .int b), (3, .int c)]) rfl dX10_ballot_129 ?_
            refine z_aload_n hC 3 rfl dX10_ballot_131 ?_
            refine z_get hC 0 8 0 (v := .ref (q 1)) rfl rfl iX10_ballot_X10 (by decide) (List.mem_of_getElem? (i := 1) (by decide +kernel)) rfl rfl dX10_ballot_132 ?_
            refine z_iload hC 0 rfl dX10_ballot_135 ?_
            refine z_iload_n hC 4 rfl dX10_ballot_137 ?_
            refine z_iast hC 1 (155 + (3 * (zbm (h 1)))) a (ws' := zMo (zy E) q (va_up (svG (va_up h 0 (upd (h 0) 1 (nI 0))) m) 1 (upd (h 1) (155 + (3 * (zbm (h 1)))) a))) rfl rfl rfl rfl (by omega) (by decide) rfl dX10_ballot_138 ?_
            refine z_aload_n hC 3 rfl dX10_ballot_139 ?_
            refine z_get hC 0 8 0 (v := .ref (q 1)) rfl rfl iX10_ballot_X10 (by decide) (List.mem_of_getElem? (i := 1) (by decide +kernel)) rfl rfl dX10_ballot_140 ?_
            refine z_iload hC 0 rfl dX10_ballot_143 ?_
            refine z_iconst hC (nI 1) (by decide +kernel) dX10_ballot_145 ?_
            refine z_iadd hC dX10_ballot_146 ?_
            refine z_top (nI ((155 + (3 * (zbm (h 1)))) + 1)) (nI_add _ _) ?_
            refine z_iload_n hC 5 rfl dX10_ballot_147 ?_
            refine z_iast hC 1 ((155 + (3 * (zbm (h 1)))) + 1) b (ws' := zMo (zy E) q (va_up (svG (va_up h 0 (upd (h 0) 1 (nI 0))) m) 1 (upd (upd (h 1) (155 + (3 * (zbm (h 1)))) a) ((155 + (3 * (zbm (h 1)))) + 1) b))) rfl rfl rfl rfl (by omega) (by decide) rfl dX10_ballot_148 ?_
            refine z_aload_n hC 3 rfl dX10_ballot_149 ?_
            refine z_get hC 0 8 0 (v := .ref (q 1)) rfl rfl iX10_ballot_X10 (by decide) (List.mem_of_getElem? (i := 1) (by decide +kernel)) rfl rfl dX10_ballot_150 ?_
            refine z_iload hC 0 rfl dX10_ballot_153 ?_
            refine z_iconst hC (nI 2) (by decide +kernel) dX10_ballot_155 ?_
            refine z_iadd hC dX10_ballot_156 ?_
            refine z_top (nI ((155 + (3 * (zbm (h 1)))) + 2)) (nI_add _ _) ?_
            refine z_iload_n hC 6 rfl dX10_ballot_157 ?_
            refine z_iast hC 1 ((155 + (3 * (zbm (h 1)))) + 2) c (ws' := zMo (zy E) q (va_up (svG (va_up h 0 (upd (h 0) 1 (nI 0))) m) 1 (upd (upd (upd (h 1) (155 + (3 * (zbm (h 1)))) a) ((155 + (3 * (zbm (h 1)))) + 1) b) ((155 + (3 * (zbm (h 1)))) + 2) c))) rfl rfl rfl rfl (by omega) (by decide) rfl dX10_ballot_158 ?_
            refine z_aload_n hC 3 rfl dX10_ballot_159 ?_
            refine z_get hC 0 8 0 (v := .ref (q 1)) rfl rfl iX10_ballot_X10 (by decide) (List.mem_of_getElem? (i := 1) (by decide +kernel)) rfl rfl dX10_ballot_160 ?_
            refine z_bipush hC (nI 11) (by decide +kernel) dX10_ballot_163 ?_
            refine z_dup2 hC dX10_ballot_165 rfl rfl ?_
            refine z_iald hC 1 11 (f := upd (upd (upd (h 1) (155 + (3 * (zbm (h 1)))) a) ((155 + (3 * (zbm (h 1)))) + 1) b) ((155 + (3 * (zbm (h 1)))) + 2) c) rfl rfl rfl (by omega) (by decide) dX10_ballot_166 ?_
            refine z_top (nI (zbm (h 1))) ((if_neg (by omega)).trans ((if_neg (by omega)).trans ((if_neg (by omega)).trans hB.1))) ?_
            refine z_iconst hC (nI 1) (by decide +kernel) dX10_ballot_167 ?_
            refine z_iadd hC dX10_ballot_168 ?_
            refine z_top (nI ((zbm (h 1)) + 1)) (nI_add _ _) ?_
            refine z_iast hC 1 11 (nI ((zbm (h 1)) + 1)) (ws' := zMo (zy E) q (va_up (svG (va_up h 0 (upd (h 0) 1 (nI 0))) m) 1 (upd (upd (upd (upd (h 1) (155 + (3 * (zbm (h 1)))) a) ((155 + (3 * (zbm (h 1)))) + 1) b) ((155 + (3 * (zbm (h 1)))) + 2) c) 11 (nI ((zbm (h 1)) + 1))))) rfl rfl rfl rfl (by omega) (by decide) rfl dX10_ballot_169 ?_
            refine z_aload_n hC 3 rfl dX10_ballot_170 ?_
            refine z_get hC 0 8 0 (v := .ref (q 1)) rfl rfl iX10_ballot_X10 (by decide) (List.mem_of_getElem? (i := 1) (by decide +kernel)) rfl rfl dX10_ballot_171 ?_
            refine z_bipush hC (nI 11) (by decide +kernel) dX10_ballot_174 ?_
            refine z_iald hC 1 11 (f := upd (upd (upd (upd (h 1) (155 + (3 * (zbm (h 1)))) a) ((155 + (3 * (zbm (h 1)))) + 1) b) ((155 + (3 * (zbm (h 1)))) + 2) c) 11 (nI ((zbm (h 1)) + 1))) rfl rfl rfl (by omega) (by decide) dX10_ballot_176 ?_
            refine z_top (nI (zbm (h 1) + 1)) rfl ?_
            have pT : btT (h 1) a b c = 0 := by simp only [btT, if_neg c_73, if_neg c_78, if_neg c_95]
            exact z_iret hC hf rfl (by rw [pT]; rfl) (by unfold mxG; rw [pT]; rfl) dX10_ballot_177
          · exact absurd c_107 (by decide +kernel)
  have j_43 : Z E 0 0 [(4, .int (nmE a b c)), (0, .ref (q 0)), (1, .int a), (2, .int b), (3, .int c)] (zMo (zy E) q h) 43 [] := by
    refine z_iload_n hC 2 rfl dX10_ballot_43 ?_
    refine z_iload_n hC 3 rfl dX10_ballot_44 ?_
    refine z_icmp_eq hC 67 dX10_ballot_45 (by decide) (fun c_45 => ?_) (fun c_45 => ?_)
    · refine z_iconst hC (nI 0) (by decide +kernel) dX10_ballot_67 ?_
      refine z_istore hC (by decide) (lv' := [(5, .int (nI 0)), (4, .int (nmE a b c)), (0, .ref (q 0)), (1, .int a), (2, .int b), (3, .int c)]) rfl dX10_ballot_68 ?_
      refine z_sub [0, 1, 2, 3, 4, 5] (lv' := [(5, .int (nI 0)), (4, .int (nmE a b c)), (0, .ref (q 0)), (1, .int a), (2, .int b), (3, .int c)]) rfl ?_
      exact z_cast j_70 (by simp only [unE, if_pos c_45]) rfl rfl
    · refine z_iload_n hC 2 rfl dX10_ballot_48 ?_
      refine z_iload_n hC 4 rfl dX10_ballot_49 ?_
      refine z_icmp_eq hC 67 dX10_ballot_50 (by decide) (fun c_50 => ?_) (fun c_50 => ?_)
      · refine z_iconst hC (nI 0) (by decide +kernel) dX10_ballot_67 ?_
        refine z_istore hC (by decide) (lv' := [(5, .int (nI 0)), (4, .int (nmE a b c)), (0, .ref (q 0)), (1, .int a), (2, .int b), (3, .int c)]) rfl dX10_ballot_68 ?_
        refine z_sub [0, 1, 2, 3, 4, 5] (lv' := [(5, .int (nI 0)), (4, .int (nmE a b c)), (0, .ref (q 0)), (1, .int a), (2, .int b), (3, .int c)]) rfl ?_
        exact z_cast j_70 (by simp only [unE, if_neg c_45, if_pos c_50]) rfl rfl
      · refine z_iload_n hC 3 rfl dX10_ballot_53 ?_
        refine z_iload_n hC 4 rfl dX10_ballot_54 ?_
        refine z_icmp_ne hC 63 dX10_ballot_55 (by decide) (fun c_55 => ?_) (fun c_55 => ?_)
        · refine z_iconst hC (nI 1) (by decide +kernel) dX10_ballot_63 ?_
          refine z_goto hC 68 dX10_ballot_64 (by decide) ?_
          refine z_istore hC (by decide) (lv' := [(5, .int (nI 1)), (4, .int (nmE a b c)), (0, .ref (q 0)), (1, .int a), (2, .int b), (3, .int c)]) rfl dX10_ballot_68 ?_
          refine z_sub [0, 1, 2, 3, 4, 5] (lv' := [(5, .int (nI 1)), (4, .int (nmE a b c)), (0, .ref (q 0)), (1, .int a), (2, .int b), (3, .int c)]) rfl ?_
          exact z_cast j_70 (by simp only [unE, if_neg c_45, if_neg c_50, if_neg c_55]) rfl rfl
        · refine z_iload_n hC 3 rfl dX10_ballot_58 ?_
          refine z_iconst hC ((-1)) (by decide +kernel) dX10_ballot_59 ?_
          refine z_icmp_ne hC 67 dX10_ballot_60 (by decide) (fun c_60 => ?_) (fun c_60 => ?_)
          · refine z_iconst hC (nI 0) (by decide +kernel) dX10_ballot_67 ?_
            refine z_istore hC (by decide) (lv' := [(5, .int (nI 0)), (4, .int (nmE a b c)), (0, .ref (q 0)), (1, .int a), (2, .int b), (3, .int c)]) rfl dX10_ballot_68 ?_
            refine z_sub [0, 1, 2, 3, 4, 5] (lv' := [(5, .int (nI 0)), (4, .int (nmE a b c)), (0, .ref (q 0)), (1, .int a), (2, .int b), (3, .int c)]) rfl ?_
            exact z_cast j_70 (by simp only [unE, if_neg c_45, if_neg c_50, if_pos c_55, if_neg c_60]) rfl rfl
          · refine z_iconst hC (nI 1) (by decide +kernel) dX10_ballot_63 ?_
            refine z_goto hC 68 dX10_ballot_64 (by decide) ?_
            refine z_istore hC (by decide) (lv' := [(5, .int (nI 1)), (4, .int (nmE a b c)), (0, .ref (q 0)), (1, .int a), (2, .int b), (3, .int c)]) rfl dX10_ballot_68 ?_
            refine z_sub [0, 1, 2, 3, 4, 5] (lv' := [(5, .int (nI 1)), (4, .int (nmE a b c)), (0, .ref (q 0)), (1, .int a), (2, .int b), (3, .int c)]) rfl ?_
            exact z_cast j_70 (by simp only [unE, if_neg c_45, if_neg c_50, if_pos c_55, if_pos c_60]) rfl rfl
  refine z_iload_n hC 1 rfl dX10_ballot_0 ?_
  refine z_callS hC (As := [.int a]) (st := []) (ws2 := zMo (zy E) q h) (B := []) (B' := []) (r := some (.int (isS a))) 1 (c_X10_isSite a) gX10_ballot_X10_isSite (by decide +kernel) rfl ⟨by decide, by decide⟩ [] rfl (by decide) rfl (Nat.le_of_ble_eq_true rfl) rfl rfl dX10_ballot_1 ?_ hkR
  refine z_if_eq hC 40 dX10_ballot_4 (by decide) (fun c_4 => ?_) (fun c_4 => ?_)
  · refine z_iconst hC (nI 0) (by decide +kernel) dX10_ballot_40 ?_
    refine z_istore hC (by decide) (lv' := [(4, .int (nI 0)), (0, .ref (q 0)), (1, .int a), (2, .int b), (3, .int c)]) rfl dX10_ballot_41 ?_
    refine z_sub [0, 1, 2, 3, 4] (lv' := [(4, .int (nI 0)), (0, .ref (q 0)), (1, .int a), (2, .int b), (3, .int c)]) rfl ?_
    exact z_cast j_43 (by simp only [nmE, if_pos c_4]) rfl rfl
  · refine z_iload_n hC 2 rfl dX10_ballot_7 ?_
    refine z_iconst hC ((-1)) (by decide +kernel) dX10_ballot_8 ?_
    refine z_icmp_eq hC 19 dX10_ballot_9 (by decide) (fun c_9 => ?_) (fun c_9 => ?_)
    · refine z_iload_n hC 3 rfl dX10_ballot_19 ?_
      refine z_iconst hC ((-1)) (by decide +kernel) dX10_ballot_20 ?_
      refine z_icmp_eq hC 36 dX10_ballot_21 (by decide) (fun c_21 => ?_) (fun c_21 => ?_)
      · refine z_iconst hC (nI 1) (by decide +kernel) dX10_ballot_36 ?_
        refine z_goto hC 41 dX10_ballot_37 (by decide) ?_
        refine z_istore hC (by decide) (lv' := [(4, .int (nI 1)), (0, .ref (q 0)), (1, .int a), (2, .int b), (3, .int c)]) rfl dX10_ballot_41 ?_
        refine z_sub [0, 1, 2, 3, 4] (lv' := [(4, .int (nI 1)), (0, .ref (q 0)), (1, .int a), (2, .int b), (3, .int c)]) rfl ?_
        exact z_cast j_43 (by simp only [nmE, if_neg c_4, if_pos c_9, if_pos c_21]) rfl rfl
      · refine z_iload_n hC 3 rfl dX10_ballot_24 ?_
        refine z_callS hC (As := [.int c]) (st := []) (ws2 := zMo (zy E) q h) (B := []) (B' := []) (r := some (.int (isS c))) 1 (c_X10_isSite c) gX10_ballot_X10_isSite (by decide +kernel) rfl ⟨by decide, by decide⟩ [] rfl (by decide) rfl (Nat.le_of_ble_eq_true rfl) rfl rfl dX10_ballot_25 ?_ hkR
        refine z_if_eq hC 40 dX10_ballot_28 (by decide) (fun c_28 => ?_) (fun c_28 => ?_)
        · refine z_iconst hC (nI 0) (by decide +kernel) dX10_ballot_40 ?_
          refine z_istore hC (by decide) (lv' := [(4, .int (nI 0)), (0, .ref (q 0)), (1, .int a), (2, .int b), (3, .int c)]) rfl dX10_ballot_41 ?_
          refine z_sub [0, 1, 2, 3, 4] (lv' := [(4, .int (nI 0)), (0, .ref (q 0)), (1, .int a), (2, .int b), (3, .int c)]) rfl ?_
          exact z_cast j_43 (by simp only [nmE, if_neg c_4, if_pos c_9, if_neg c_21, if_pos c_28]) rfl rfl
        · refine z_iload_n hC 2 rfl dX10_ballot_31 ?_
          refine z_iconst hC ((-1)) (by decide +kernel) dX10_ballot_32 ?_
          refine z_icmp_eq hC 40 dX10_ballot_33 (by decide) (fun c_33 => ?_) (fun c_33 => ?_)
          · refine z_iconst hC (nI 0) (by decide +kernel) dX10_ballot_40 ?_
            refine z_istore hC (by decide) (lv' := [(4, .int (nI 0)), (0, .ref (q 0)), (1, .int a), (2, .int b), (3, .int c)]) rfl dX10_ballot_41 ?_
            refine z_sub [0, 1, 2, 3, 4] (lv' := [(4, .int (nI 0)), (0, .ref (q 0)), (1, .int a), (2, .int b), (3, .int c)]) rfl ?_
            exact z_cast j_43 (by simp only [nmE, if_neg c_4, if_pos c_9, if_neg c_21, if_neg c_28, if_pos c_33]) rfl rfl
          · exact absurd c_9 c_33
    · refine z_iload_n hC 2 rfl dX10_ballot_12 ?_
      refine z_callS hC (As := [.int b]) (st := []) (ws2 := zMo (zy E) q h) (B := []) (B' := []) (r := some (.int (isS b))) 1 (c_X10_isSite b) gX10_ballot_X10_isSite (by decide +kernel) rfl ⟨by decide, by decide⟩ [] rfl (by decide) rfl (Nat.le_of_ble_eq_true rfl) rfl rfl dX10_ballot_13 ?_ hkR
      refine z_if_eq hC 40 dX10_ballot_16 (by decide) (fun c_16 => ?_) (fun c_16 => ?_)
      · refine z_iconst hC (nI 0) (by decide +kernel) dX10_ballot_40 ?_
        refine z_istore hC (by decide) (lv' := [(4, .int (nI 0)), (0, .ref (q 0)), (1, .int a), (2, .int b), (3, .int c)]) rfl dX10_ballot_41 ?_
        refine z_sub [0, 1, 2, 3, 4] (lv' := [(4, .int (nI 0)), (0, .ref (q 0)), (1, .int a), (2, .int b), (3, .int c)]) rfl ?_
        exact z_cast j_43 (by simp only [nmE, if_neg c_4, if_neg c_9, if_pos c_16]) rfl rfl
      · refine z_iload_n hC 3 rfl dX10_ballot_19 ?_
        refine z_iconst hC ((-1)) (by decide +kernel) dX10_ballot_20 ?_
        refine z_icmp_eq hC 36 dX10_ballot_21 (by decide) (fun c_21 => ?_) (fun c_21 => ?_)
        · refine z_iconst hC (nI 1) (by decide +kernel) dX10_ballot_36 ?_
          refine z_goto hC 41 dX10_ballot_37 (by decide) ?_
          refine z_istore hC (by decide) (lv' := [(4, .int (nI 1)), (0, .ref (q 0)), (1, .int a), (2, .int b), (3, .int c)]) rfl dX10_ballot_41 ?_
          refine z_sub [0, 1, 2, 3, 4] (lv' := [(4, .int (nI 1)), (0, .ref (q 0)), (1, .int a), (2, .int b), (3, .int c)]) rfl ?_
          exact z_cast j_43 (by simp only [nmE, if_neg c_4, if_neg c_9, if_neg c_16, if_pos c_21]) rfl rfl
        · refine z_iload_n hC 3 rfl dX10_ballot_24 ?_
          refine z_callS hC (As := [.int c]) (st := []) (ws2 := zMo (zy E) q h) (B := []) (B' := []) (r := some (.int (isS c))) 1 (c_X10_isSite c) gX10_ballot_X10_isSite (by decide +kernel) rfl ⟨by decide, by decide⟩ [] rfl (by decide) rfl (Nat.le_of_ble_eq_true rfl) rfl rfl dX10_ballot_25 ?_ hkR
          refine z_if_eq hC 40 dX10_ballot_28 (by decide) (fun c_28 => ?_) (fun c_28 => ?_)
          · refine z_iconst hC (nI 0) (by decide +kernel) dX10_ballot_40 ?_
            refine z_istore hC (by decide) (lv' := [(4, .int (nI 0)), (0, .ref (q 0)), (1, .int a), (2, .int b), (3, .int c)]) rfl dX10_ballot_41 ?_
            refine z_sub [0, 1, 2, 3, 4] (lv' := [(4, .int (nI 0)), (0, .ref (q 0)), (1, .int a), (2, .int b), (3, .int c)]) rfl ?_
            exact z_cast j_43 (by simp only [nmE, if_neg c_4, if_neg c_9, if_neg c_16, if_neg c_21, if_pos c_28]) rfl rfl
          · refine z_iload_n hC 2 rfl dX10_ballot_31 ?_
            refine z_iconst hC ((-1)) (by decide +kernel) dX10_ballot_32 ?_
            refine z_icmp_eq hC 40 dX10_ballot_33 (by decide) (fun c_33 => ?_) (fun c_33 => ?_)
            · exact absurd c_33 c_9
            · refine z_iconst hC (nI 1) (by decide +kernel) dX10_ballot_36 ?_
              refine z_goto hC 41 dX10_ballot_37 (by decide) ?_
              refine z_istore hC (by decide) (lv' := [(4, .int (nI 1)), (0, .ref (q 0)), (1, .int a), (2, .int b), (3, .int c)]) rfl dX10_ballot_41 ?_
              refine z_sub [0, 1, 2, 3, 4] (lv' := [(4, .int (nI 1)), (0, .ref (q 0)), (1, .int a), (2, .int b), (3, .int c)]) rfl ?_
              exact z_cast j_43 (by simp only [nmE, if_neg c_4, if_neg c_9, if_neg c_16, if_neg c_21, if_neg c_28, if_neg c_33]) rfl rfl

theorem iX10_countRound_X10 : ∀ w ∈ u_ws RX10 TX10 15, w ∈ wsX10_countRound := by decide +kernel
set_option maxHeartbeats 4000000 in
set_option maxRecDepth 100000 in
/-- countRound -/
theorem c_X10_countRound {l : Launch} {y : zY} {D : va_G} (q : Nat → Nat) (h : Nat → Nat → Int32) (r : Nat) (x : Int32) (hr : r < 8) (hB : okBm (h 1)) (hCh : okCh (h 1)) : zM l y D yX10_countRound wsX10_countRound 0 0 [.ref (q 0), .int (nI r), .int x] (zMo y q h) (zMo y q (va_up h 4 (crC9 h r x).1)) (some (.int ((crC9 h r x).2))) := by
  have hz20 := hB.2
  refine z_start (own := RX10) (cc := cX10_countRound) (maxL := 6) (ret := (some .int)) rfl (by decide +kernel) rfl (Nat.le_of_ble_eq_true rfl) (zMo_fst _ _ _ _) ?_
  intro E hEl hEy hED hC hf
  subst hEl hEy hED
  have hkR : 0 ≤ E.2.2.2.2.2.1.cells ∧ 0 ≤ E.2.2.2.2.2.1.slots := ⟨Nat.zero_le _, Nat.zero_le _⟩
  refine z_cast (lv := [(0, .ref (q 0)), (1, .int (nI r)), (2, .int x)]) (ws := (zMo (zy E) q h)) (st := []) ?_ rfl rfl rfl
  refine z_iconst hC (nI 0) (by decide +kernel) dX10_countRound_0 ?_
  refine z_istore_n hC (by decide) (lv' := [(3, .int (nI 0)), (0, .ref (q 0)), (1, .int (nI r)), (2, .int x)]) rfl dX10_countRound_1 ?_
  have lp_2 : ∀ (d_2 s : Nat), 8 < s + d_2 → s ≤ 8 → Z E 0 0 [(0, .ref (q 0)), (1, .int (nI r)), (2, .int x), (3, .int (nI s))] (zMo (zy E) q (va_up h 4 (cvI (h 4) r x s))) 2 [] := by
    intro d_2
    induction d_2 with
    | zero => intro s  q1 q2; omega
    | succ d_2 ih_2 =>
      intro s  q1_2 q2_2 
      refine z_iload_n hC 3 rfl dX10_countRound_2 ?_
      refine z_bipush hC (nI 8) (by decide +kernel) dX10_countRound_3 ?_
      refine z_icmp_ge hC 39 dX10_countRound_5 (by decide) (fun c_5 => ?_) (fun c_5 => ?_)
      · have k_5 : 8 ≤ s := (nI_leI (by omega) (by omega)).mp c_5
        obtain rfl : s = 8 := by omega
        refine z_iconst hC (nI 0) (by decide +kernel) dX10_countRound_39 ?_
        refine z_istore_n hC (by decide) (lv' := [(3, .int (nI 0)), (0, .ref (q 0)), (1, .int (nI r)), (2, .int x)]) rfl dX10_countRound_40 ?_
        refine z_iconst hC (nI 0) (by decide +kernel) dX10_countRound_41 ?_
        refine z_istore hC (by decide) (lv' := [(4, .int (nI 0)), (3, .int (nI 0)), (0, .ref (q 0)), (1, .int (nI r)), (2, .int x)]) rfl dX10_countRound_42 ?_
        have lp_44 : ∀ (d_44 b : Nat), (zbm (h 1)) < b + d_44 → b ≤ (zbm (h 1)) → Z E 0 0 [(0, .ref (q 0)), (1, .int (nI r)), (2, .int x), (3, .int ((crI (h 4) (h 1) r x b).2)), (4, .int (nI b))] (zMo (zy E) q (va_up h 4 ((crI (h 4) (h 1) r x b).1))) 44 [] := by
          intro d_44
          induction d_44 with
          | zero => intro b  q1 q2; omega
          | succ d_44 ih_44 =>
            intro b  q1_44 q2_44 
            refine z_iload hC 4 rfl dX10_countRound_44 ?_
            refine z_aload_n hC 0 rfl dX10_countRound_46 ?_
            refine z_get hC 0 8 0 (v := .ref (q 1)) rfl rfl iX10_countRound_X10 (by decide) (List.mem_of_getElem? (i := 2) (by decide +kernel)) rfl rfl dX10_countRound_47 ?_
            refine z_bipush hC (nI 11) (by decide +kernel) dX10_countRound_50 ?_
            refine z_iald hC 1 11 (f := h 1) rfl rfl rfl (by omega) (by decide) dX10_countRound_52 ?_
            refine z_top (nI (zbm (h 1))) hB.1 ?_
            refine z_icmp_ge hC 159 dX10_countRound_53 (by decide) (fun c_53 => ?_) (fun c_53 => ?_)
            · have k_53 : (zbm (h 1)) ≤ b := (nI_leI (by omega) (by omega)).mp c_53
              obtain rfl : b = (zbm (h 1)) := by omega
              refine z_iload_n hC 3 rfl dX10_countRound_159 ?_
              exact z_iret hC hf rfl rfl rfl dX10_countRound_160
            · have k_53 : ¬ ((zbm (h 1)) ≤ b) := fun q => c_53 ((nI_leI (by omega) (by omega)).mpr q)
              refine z_iconst hC (nI 0) (by decide +kernel) dX10_countRound_56 ?_
              refine z_istore hC (by decide) (lv' := [(5, .int (nI 0)), (0, .ref (q 0)), (1, .int (nI r)), (2, .int x), (3, .int ((crI (h 4) (h 1) r x b).2)), (4, .int (nI b))]) rfl dX10_countRound_57 ?_
              have lp_59 : ∀ (d_59 a : Nat), 3 < a + d_59 → a ≤ 3 → (faR (h 1) x b (3 - a) a = faC (h 1) x b) → Z E 0 0 [(0, .ref (q 0)), (1, .int (nI r)), (2, .int x), (3, .int ((crI (h 4) (h 1) r x b).2)), (4, .int (nI b)), (5, .int (nI a))] (zMo (zy E) q (va_up h 4 ((crI (h 4) (h 1) r x b).1))) 59 [] := by
                intro d_59
                induction d_59 with
                | zero => intro a  q1 q2; omega
                | succ d_59 ih_59 =>
                  intro a  q1_59 q2_59 ha
                  refine z_iload hC 5 rfl dX10_countRound_59 ?_
                  refine z_iconst hC (nI 3) (by decide +kernel) dX10_countRound_61 ?_
                  refine z_icmp_ge hC 114 dX10_countRound_62 (by decide) (fun c_62 => ?_) (fun c_62 => ?_)
                  · have k_62 : 3 ≤ a := (nI_leI (by omega) (by omega)).mp c_62
                    obtain rfl : a = 3 := by omega
                    have hfa : 3 = faC (h 1) x b := ha
                    refine z_iload hC 5 rfl dX10_countRound_114 ?_
                    refine z_iconst hC (nI 3) (by decide +kernel) dX10_countRound_116 ?_
                    refine z_icmp_ge hC 153 dX10_countRound_117 (by decide) (fun c_117 => ?_) (fun c_117 => ?_)
                    · have k_117 : 3 ≤ 3 := (nI_leI (by omega) (by omega)).mp c_117
                      refine z_iinc hC 4 (nI (b + 1)) rfl z_i1 (by decide) (lv' := [(4, .int (nI (b + 1))), (0, .ref (q 0)), (1, .int (nI r)), (2, .int x), (3, .int ((crI (h 4) (h 1) r x b).2)), (5, .int (nI 3))]) rfl dX10_countRound_153 ?_
                      refine z_goto hC 44 dX10_countRound_156 (by decide) ?_
                      refine z_sub [1, 2, 3, 4, 0] (lv' := [(0, .ref (q 0)), (1, .int (nI r)), (2, .int x), (3, .int ((crI (h 4) (h 1) r x b).2)), (4, .int (nI (b + 1)))]) rfl ?_
                      exact z_cast (ih_44 (b + 1) (by omega) (by omega)) (by rw [crI, ← hfa, if_neg (show ¬ (3 : Nat) < 3 by decide)] <;> rfl) (by rw [crI, ← hfa, if_neg (show ¬ (3 : Nat) < 3 by decide)] <;> rfl) rfl
                    · exact absurd (show nI 3 ≤ nI 3 by decide +kernel) c_117
                  · have k_62 : ¬ (3 ≤ a) := fun q => c_62 ((nI_leI (by omega) (by omega)).mpr q)
                    refine z_aload_n hC 0 rfl dX10_countRound_65 ?_
                    refine z_get hC 0 8 0 (v := .ref (q 1)) rfl rfl iX10_countRound_X10 (by decide) (List.mem_of_getElem? (i := 2) (by decide +kernel)) rfl rfl dX10_countRound_66 ?_
                    refine z_sipush hC (nI 155) (by decide +kernel) dX10_countRound_69 ?_
                    refine z_iconst hC (nI 3) (by decide +kernel) dX10_countRound_72 ?_
                    refine z_iload hC 4 rfl dX10_countRound_73 ?_
                    refine z_imul hC dX10_countRound_75 ?_
                    refine z_top (nI (3 * b)) (pk_mul _ _) ?_
                    refine z_iadd hC dX10_countRound_76 ?_
                    refine z_top (nI (155 + (3 * b))) (nI_add _ _) ?_
                    refine z_iload hC 5 rfl dX10_countRound_77 ?_
                    refine z_iadd hC dX10_countRound_79 ?_
                    refine z_top (nI ((155 + (3 * b)) + a)) (nI_add _ _) ?_
                    refine z_iald hC 1 ((155 + (3 * b)) + a) (f := h 1) rfl rfl rfl (by omega) (by decide) dX10_countRound_80 ?_
                    refine z_iconst hC ((-1)) (by decide +kernel) dX10_countRound_81 ?_
                    refine z_icmp_eq hC 108 dX10_countRound_82 (by decide) (fun c_82 => ?_) (fun c_82 => ?_)
                    · refine z_iinc hC 5 (nI (a + 1)) rfl z_i1 (by decide) (lv' := [(5, .int (nI (a + 1))), (0, .ref (q 0)), (1, .int (nI r)), (2, .int x), (3, .int ((crI (h 4) (h 1) r x b).2)), (4, .int (nI b))]) rfl dX10_countRound_108 ?_
                      refine z_goto hC 59 dX10_countRound_111 (by decide) ?_
                      refine z_sub [1, 2, 3, 4, 5, 0] (lv' := [(0, .ref (q 0)), (1, .int (nI r)), (2, .int x), (3, .int ((crI (h 4) (h 1) r x b).2)), (4, .int (nI b)), (5, .int (nI (a + 1)))]) rfl ?_
                      exact z_cast (ih_59 (a + 1) (by omega) (by omega) ((fa_step (by omega) ha).1 c_82)) rfl rfl rfl
                    · refine z_iload_n hC 2 rfl dX10_countRound_85 ?_
                      refine z_aload_n hC 0 rfl dX10_countRound_86 ?_
                      refine z_get hC 0 8 0 (v := .ref (q 1)) rfl rfl iX10_countRound_X10 (by decide) (List.mem_of_getElem? (i := 2) (by decide +kernel)) rfl rfl dX10_countRound_87 ?_
                      refine z_sipush hC (nI 155) (by decide +kernel) dX10_countRound_90 ?_
                      refine z_iconst hC (nI 3) (by decide +kernel) dX10_countRound_93 ?_
                      refine z_iload hC 4 rfl dX10_countRound_94 ?_
                      refine z_imul hC dX10_countRound_96 ?_
                      refine z_top (nI (3 * b)) (pk_mul _ _) ?_
                      refine z_iadd hC dX10_countRound_97 ?_
                      refine z_top (nI (155 + (3 * b))) (nI_add _ _) ?_
                      refine z_iload hC 5 rfl dX10_countRound_98 ?_
                      refine z_iadd hC dX10_countRound_100 ?_
                      refine z_top (nI ((155 + (3 * b)) + a)) (nI_add _ _) ?_
                      refine z_iald hC 1 ((155 + (3 * b)) + a) (f := h 1) rfl rfl rfl (by omega) (by decide) dX10_countRound_101 ?_
                      refine z_ishr hC dX10_countRound_102 ?_
                      refine z_iconst hC (nI 1) (by decide +kernel) dX10_countRound_103 ?_
                      refine z_iand hC dX10_countRound_104 ?_
                      refine z_top (stB x ((h 1) (155 + 3 * b + a))) rfl ?_
                      refine z_if_ne hC 114 dX10_countRound_105 (by decide) (fun c_105 => ?_) (fun c_105 => ?_)
                      · have hfa : a = faC (h 1) x b := ((fa_step (by omega) ha).2.2 c_82 c_105).symm
                        obtain ⟨j, hj8, hj⟩ := hCh b (by omega) a (by omega) c_82
                        have hjc : (h 1 (155 + 3 * b + a)).toNatClampNeg = j := by rw [hj]; exact nI_clamp (by omega)
                        refine z_iload hC 5 rfl dX10_countRound_114 ?_
                        refine z_iconst hC (nI 3) (by decide +kernel) dX10_countRound_116 ?_
                        refine z_icmp_ge hC 153 dX10_countRound_117 (by decide) (fun c_117 => ?_) (fun c_117 => ?_)
                        · exact absurd ((nI_leI (by omega) (by omega)).mp c_117) (by omega)
                        · have k_117 : ¬ (3 ≤ a) := fun q => c_117 ((nI_leI (by omega) (by omega)).mpr q)
                          refine z_aload_n hC 0 rfl dX10_countRound_120 ?_
                          refine z_get hC 0 8 5 (v := .ref (q 4)) rfl rfl iX10_countRound_X10 (by decide) (List.mem_of_getElem? (i := 1) (by decide +kernel)) rfl rfl dX10_countRound_121 ?_
                          refine z_bipush hC (nI 8) (by decide +kernel) dX10_countRound_124 ?_
                          refine z_iload_n hC 1 rfl dX10_countRound_126 ?_
                          refine z_imul hC dX10_countRound_127 ?_
                          refine z_top (nI (8 * r)) (pk_mul _ _) ?_
                          refine z_aload_n hC 0 rfl dX10_countRound_128 ?_
                          refine z_get hC 0 8 0 (v := .ref (q 1)) rfl rfl iX10_countRound_X10 (by decide) (List.mem_of_getElem? (i := 2) (by decide +kernel)) rfl rfl dX10_countRound_129 ?_
                          refine z_sipush hC (nI 155) (by decide +kernel) dX10_countRound_132 ?_
                          refine z_iconst hC (nI 3) (by decide +kernel) dX10_countRound_135 ?_
                          refine z_iload hC 4 rfl dX10_countRound_136 ?_
                          refine z_imul hC dX10_countRound_138 ?_
                          refine z_top (nI (3 * b)) (pk_mul _ _) ?_
                          refine z_iadd hC dX10_countRound_139 ?_
                          refine z_top (nI (155 + (3 * b))) (nI_add _ _) ?_
                          refine z_iload hC 5 rfl dX10_countRound_140 ?_
                          refine z_iadd hC dX10_countRound_142 ?_
                          refine z_top (nI ((155 + (3 * b)) + a)) (nI_add _ _) ?_
                          refine z_iald hC 1 ((155 + (3 * b)) + a) (f := h 1) rfl rfl rfl (by omega) (by decide) dX10_countRound_143 ?_
                          refine z_top (nI j) hj ?_
                          refine z_iadd hC dX10_countRound_144 ?_
                          refine z_top (nI ((8 * r) + j)) (nI_add _ _) ?_
                          refine z_dup2 hC dX10_countRound_145 rfl rfl ?_
                          refine z_iald hC 4 ((8 * r) + j) (f := (crI (h 4) (h 1) r x b).1) rfl rfl rfl (by omega) (by decide) dX10_countRound_146 ?_
                          refine z_iconst hC (nI 1) (by decide +kernel) dX10_countRound_147 ?_
                          refine z_iadd hC dX10_countRound_148 ?_
                          refine z_iast hC 4 ((8 * r) + j) ((((crI (h 4) (h 1) r x b).1) ((8 * r) + j)) + (nI 1)) (ws' := zMo (zy E) q (va_up h 4 (upd ((crI (h 4) (h 1) r x b).1) ((8 * r) + j) ((((crI (h 4) (h 1) r x b).1) ((8 * r) + j)) + (nI 1))))) rfl rfl rfl rfl (by omega) (by decide) rfl dX10_countRound_149 ?_
                          refine z_iinc hC 3 (((crI (h 4) (h 1) r x b).2) + Int32.ofInt 1) rfl rfl (by decide) (lv' := [(3, .int (((crI (h 4) (h 1) r x b).2) + Int32.ofInt 1)), (0, .ref (q 0)), (1, .int (nI r)), (2, .int x), (4, .int (nI b)), (5, .int (nI a))]) rfl dX10_countRound_150 ?_
                          refine z_iinc hC 4 (nI (b + 1)) rfl z_i1 (by decide) (lv' := [(4, .int (nI (b + 1))), (3, .int (((crI (h 4) (h 1) r x b).2) + Int32.ofInt 1)), (0, .ref (q 0)), (1, .int (nI r)), (2, .int x), (5, .int (nI a))]) rfl dX10_countRound_153 ?_
                          refine z_goto hC 44 dX10_countRound_156 (by decide) ?_
                          refine z_sub [2, 3, 4, 1, 0] (lv' := [(0, .ref (q 0)), (1, .int (nI r)), (2, .int x), (3, .int (((crI (h 4) (h 1) r x b).2) + Int32.ofInt 1)), (4, .int (nI (b + 1)))]) rfl ?_
                          exact z_cast (ih_44 (b + 1) (by omega) (by omega)) (by rw [crI, ← hfa, if_pos (Nat.not_le.mp k_117), hjc] <;> rfl) (by rw [crI, ← hfa, if_pos (Nat.not_le.mp k_117), hjc] <;> rfl) rfl
                      · refine z_iinc hC 5 (nI (a + 1)) rfl z_i1 (by decide) (lv' := [(5, .int (nI (a + 1))), (0, .ref (q 0)), (1, .int (nI r)), (2, .int x), (3, .int ((crI (h 4) (h 1) r x b).2)), (4, .int (nI b))]) rfl dX10_countRound_108 ?_
                        refine z_goto hC 59 dX10_countRound_111 (by decide) ?_
                        refine z_sub [1, 2, 3, 4, 5, 0] (lv' := [(0, .ref (q 0)), (1, .int (nI r)), (2, .int x), (3, .int ((crI (h 4) (h 1) r x b).2)), (4, .int (nI b)), (5, .int (nI (a + 1)))]) rfl ?_
                        exact z_cast (ih_59 (a + 1) (by omega) (by omega) ((fa_step (by omega) ha).2.1 c_82 c_105)) rfl rfl rfl
              refine z_sub [1, 2, 3, 4, 5, 0] (lv' := [(0, .ref (q 0)), (1, .int (nI r)), (2, .int x), (3, .int ((crI (h 4) (h 1) r x b).2)), (4, .int (nI b)), (5, .int (nI 0))]) rfl ?_
              exact z_cast (lp_59 (3 + 1) 0 (by omega) (by omega) rfl) rfl rfl rfl
        refine z_sub [2, 3, 4, 1, 0] (lv' := [(0, .ref (q 0)), (1, .int (nI r)), (2, .int x), (3, .int (nI 0)), (4, .int (nI 0))]) rfl ?_
        exact z_cast (lp_44 ((zbm (h 1)) + 1) 0 (by omega) (by omega)) rfl rfl rfl
      · have k_5 : ¬ (8 ≤ s) := fun q => c_5 ((nI_leI (by omega) (by omega)).mpr q)
        refine z_aload_n hC 0 rfl dX10_countRound_8 ?_
        refine z_get hC 0 8 5 (v := .ref (q 4)) rfl rfl iX10_countRound_X10 (by decide) (List.mem_of_getElem? (i := 1) (by decide +kernel)) rfl rfl dX10_countRound_9 ?_
        refine z_bipush hC (nI 8) (by decide +kernel) dX10_countRound_12 ?_
        refine z_iload_n hC 1 rfl dX10_countRound_14 ?_
        refine z_imul hC dX10_countRound_15 ?_
        refine z_top (nI (8 * r)) (pk_mul _ _) ?_
        refine z_iload_n hC 3 rfl dX10_countRound_16 ?_
        refine z_iadd hC dX10_countRound_17 ?_
        refine z_top (nI ((8 * r) + s)) (nI_add _ _) ?_
        refine z_iload_n hC 2 rfl dX10_countRound_18 ?_
        refine z_iload_n hC 3 rfl dX10_countRound_19 ?_
        refine z_ishr hC dX10_countRound_20 ?_
        refine z_iconst hC (nI 1) (by decide +kernel) dX10_countRound_21 ?_
        refine z_iand hC dX10_countRound_22 ?_
        refine z_top (stB x (nI s)) rfl ?_
        refine z_iconst hC (nI 1) (by decide +kernel) dX10_countRound_23 ?_
        refine z_icmp_ne hC 31 dX10_countRound_24 (by decide) (fun c_24 => ?_) (fun c_24 => ?_)
        · refine z_iconst hC ((-1)) (by decide +kernel) dX10_countRound_31 ?_
          refine z_iast hC 4 ((8 * r) + s) (-1) (ws' := zMo (zy E) q (va_up h 4 (upd (cvI (h 4) r x s) ((8 * r) + s) (-1)))) rfl rfl rfl rfl (by omega) (by decide) rfl dX10_countRound_32 ?_
          refine z_iinc hC 3 (nI (s + 1)) rfl z_i1 (by decide) (lv' := [(3, .int (nI (s + 1))), (0, .ref (q 0)), (1, .int (nI r)), (2, .int x)]) rfl dX10_countRound_33 ?_
          refine z_goto hC 2 dX10_countRound_36 (by decide) ?_
          refine z_sub [1, 2, 3, 0] (lv' := [(0, .ref (q 0)), (1, .int (nI r)), (2, .int x), (3, .int (nI (s + 1)))]) rfl ?_
          exact z_cast (ih_2 (s + 1) (by omega) (by omega)) rfl (by rw [cvI, if_neg c_24]) rfl
        · refine z_iconst hC (nI 0) (by decide +kernel) dX10_countRound_27 ?_
          refine z_goto hC 32 dX10_countRound_28 (by decide) ?_
          refine z_iast hC 4 ((8 * r) + s) (nI 0) (ws' := zMo (zy E) q (va_up h 4 (upd (cvI (h 4) r x s) ((8 * r) + s) (nI 0)))) rfl rfl rfl rfl (by omega) (by decide) rfl dX10_countRound_32 ?_
          refine z_iinc hC 3 (nI (s + 1)) rfl z_i1 (by decide) (lv' := [(3, .int (nI (s + 1))), (0, .ref (q 0)), (1, .int (nI r)), (2, .int x)]) rfl dX10_countRound_33 ?_
          refine z_goto hC 2 dX10_countRound_36 (by decide) ?_
          refine z_sub [1, 2, 3, 0] (lv' := [(0, .ref (q 0)), (1, .int (nI r)), (2, .int x), (3, .int (nI (s + 1)))]) rfl ?_
          exact z_cast (ih_2 (s + 1) (by omega) (by omega)) rfl (by rw [cvI, if_pos c_24]) rfl
  refine z_sub [1, 2, 3, 0] (lv' := [(0, .ref (q 0)), (1, .int (nI r)), (2, .int x), (3, .int (nI 0))]) rfl ?_
  exact z_cast (lp_2 (8 + 1) 0 (by omega) (by omega)) rfl rfl rfl

theorem iX10_isWorse_X10 : ∀ w ∈ u_ws RX10 TX10 15, w ∈ wsX10_isWorse := by decide +kernel
set_option maxHeartbeats 4000000 in
set_option maxRecDepth 100000 in
/-- isWorse -/
theorem c_X10_isWorse {l : Launch} {y : zY} {D : va_G} (q : Nat → Nat) (h : Nat → Nat → Int32) (r s w : Nat) (hr : r < 8) (hs : s < 8) (hw : w < 8) (hM : okM (h 1)) : zM l y D yX10_isWorse wsX10_isWorse 1 23 [.ref (q 0), .int (nI r), .int (nI s), .int (nI w)] (zMo y q h) (zMo y q h) (some (.int (iwM (h 4) (h 1) r s w))) := by
  refine z_start (own := RX10) (cc := cX10_isWorse) (maxL := 6) (ret := (some .boolean)) rfl (by decide +kernel) rfl (Nat.le_of_ble_eq_true rfl) (zMo_fst _ _ _ _) ?_
  intro E hEl hEy hED hC hf
  subst hEl hEy hED
  have hkR : 0 ≤ E.2.2.2.2.2.1.cells ∧ 0 ≤ E.2.2.2.2.2.1.slots := ⟨Nat.zero_le _, Nat.zero_le _⟩
  refine z_cast (lv := [(0, .ref (q 0)), (1, .int (nI r)), (2, .int (nI s)), (3, .int (nI w))]) (ws := (zMo (zy E) q h)) (st := []) ?_ rfl rfl rfl
  refine z_aload_n hC 0 rfl dX10_isWorse_0 ?_
  refine z_get hC 0 8 5 (v := .ref (q 4)) rfl rfl iX10_isWorse_X10 (by decide) (List.mem_of_getElem? (i := 1) (by decide +kernel)) rfl rfl dX10_isWorse_1 ?_
  refine z_bipush hC (nI 8) (by decide +kernel) dX10_isWorse_4 ?_
  refine z_iload_n hC 1 rfl dX10_isWorse_6 ?_
  refine z_imul hC dX10_isWorse_7 ?_
  refine z_top (nI (8 * r)) (pk_mul _ _) ?_
  refine z_iload_n hC 2 rfl dX10_isWorse_8 ?_
  refine z_iadd hC dX10_isWorse_9 ?_
  refine z_top (nI ((8 * r) + s)) (nI_add _ _) ?_
  refine z_iald hC 4 ((8 * r) + s) (f := h 4) rfl rfl rfl (by omega) (by decide) dX10_isWorse_10 ?_
  refine z_istore hC (by decide) (lv' := [(4, .int ((h 4) ((8 * r) + s))), (0, .ref (q 0)), (1, .int (nI r)), (2, .int (nI s)), (3, .int (nI w))]) rfl dX10_isWorse_11 ?_
  refine z_aload_n hC 1 rfl dX10_isWorse_13 ?_
  refine z_get hC 0 8 5 (v := .ref (q 4)) rfl rfl iX10_isWorse_X10 (by decide) (List.mem_of_getElem? (i := 1) (by decide +kernel)) rfl rfl dX10_isWorse_14 ?_
  refine z_bipush hC (nI 8) (by decide +kernel) dX10_isWorse_17 ?_
  refine z_iload_n hC 2 rfl dX10_isWorse_19 ?_
  refine z_imul hC dX10_isWorse_20 ?_
  refine z_top (nI (8 * r)) (pk_mul _ _) ?_
  refine z_iload_n hC 4 rfl dX10_isWorse_21 ?_
  refine z_iadd hC dX10_isWorse_22 ?_
  refine z_top (nI ((8 * r) + w)) (nI_add _ _) ?_
  refine z_iald hC 4 ((8 * r) + w) (f := h 4) rfl rfl rfl (by omega) (by decide) dX10_isWorse_23 ?_
  refine z_istore hC (by decide) (lv' := [(5, .int ((h 4) ((8 * r) + w))), (4, .int ((h 4) ((8 * r) + s))), (0, .ref (q 0)), (1, .int (nI r)), (2, .int (nI s)), (3, .int (nI w))]) rfl dX10_isWorse_24 ?_
  refine z_iload hC 1 rfl dX10_isWorse_26 ?_
  refine z_iload hC 0 rfl dX10_isWorse_28 ?_
  refine z_icmp_eq hC 46 dX10_isWorse_30 (by decide) (fun c_30 => ?_) (fun c_30 => ?_)
  · refine z_aload_n hC 2 rfl dX10_isWorse_46 ?_
    refine z_iload_n hC 4 rfl dX10_isWorse_47 ?_
    refine z_callV hC (As := [.int (nI s)]) (st := []) (ws2 := zMo (zy E) q h) (B := zMo (zy E) q h) (B' := zMo (zy E) q h) (r := some (.int (vmS (h 1) s (zhm (h 1) s)))) 1 (c_X10_volumes q h s (by omega) hM) gX10_isWorse_X10_volumes (q0 := 0) (ci := 8) (by decide +kernel) rfl rfl rfl ⟨by decide, by decide⟩ [0, 1, 2, 3, 4, 5, 6] rfl (by decide) rfl (Nat.le_of_ble_eq_true rfl) rfl rfl dX10_isWorse_48 ?_ hkR
    refine z_aload_n hC 2 rfl dX10_isWorse_51 ?_
    refine z_iload_n hC 5 rfl dX10_isWorse_52 ?_
    refine z_callV hC (As := [.int (nI w)]) (st := [.int (vmS (h 1) s (zhm (h 1) s))]) (ws2 := zMo (zy E) q h) (B := zMo (zy E) q h) (B' := zMo (zy E) q h) (r := some (.int (vmS (h 1) w (zhm (h 1) w)))) 1 (c_X10_volumes q h w (by omega) hM) gX10_isWorse_X10_volumes (q0 := 0) (ci := 8) (by decide +kernel) rfl rfl rfl ⟨by decide, by decide⟩ [0, 1, 2, 3, 4, 5, 6] rfl (by decide) rfl (Nat.le_of_ble_eq_true rfl) rfl rfl dX10_isWorse_53 ?_ hkR
    refine z_icmp_eq hC 80 dX10_isWorse_56 (by decide) (fun c_56 => ?_) (fun c_56 => ?_)
    · refine z_iload_n hC 4 rfl dX10_isWorse_80 ?_
      refine z_iload_n hC 5 rfl dX10_isWorse_81 ?_
      refine z_icmp_le hC 89 dX10_isWorse_82 (by decide) (fun c_82 => ?_) (fun c_82 => ?_)
      · have k_82 : s ≤ w := (nI_leI (by omega) (by omega)).mp c_82
        refine z_iconst hC (nI 0) (by decide +kernel) dX10_isWorse_89 ?_
        exact z_zret hC hf rfl (by decide +kernel) (by simp only [iwM, if_pos c_30, if_pos c_56, if_pos k_82]) rfl dX10_isWorse_90
      · have k_82 : ¬ (s ≤ w) := fun q => c_82 ((nI_leI (by omega) (by omega)).mpr q)
        refine z_iconst hC (nI 1) (by decide +kernel) dX10_isWorse_85 ?_
        refine z_goto hC 90 dX10_isWorse_86 (by decide) ?_
        exact z_zret hC hf rfl (by decide +kernel) (by simp only [iwM, if_pos c_30, if_pos c_56, if_neg k_82]) rfl dX10_isWorse_90
    · refine z_aload_n hC 2 rfl dX10_isWorse_59 ?_
      refine z_iload_n hC 4 rfl dX10_isWorse_60 ?_
      refine z_callV hC (As := [.int (nI s)]) (st := []) (ws2 := zMo (zy E) q h) (B := zMo (zy E) q h) (B' := zMo (zy E) q h) (r := some (.int (vmS (h 1) s (zhm (h 1) s)))) 1 (c_X10_volumes q h s (by omega) hM) gX10_isWorse_X10_volumes (q0 := 0) (ci := 8) (by decide +kernel) rfl rfl rfl ⟨by decide, by decide⟩ [0, 1, 2, 3, 4, 5, 6] rfl (by decide) rfl (Nat.le_of_ble_eq_true rfl) rfl rfl dX10_isWorse_61 ?_ hkR
      refine z_aload_n hC 2 rfl dX10_isWorse_64 ?_
      refine z_iload_n hC 5 rfl dX10_isWorse_65 ?_
      refine z_callV hC (As := [.int (nI w)]) (st := [.int (vmS (h 1) s (zhm (h 1) s))]) (ws2 := zMo (zy E) q h) (B := zMo (zy E) q h) (B' := zMo (zy E) q h) (r := some (.int (vmS (h 1) w (zhm (h 1) w)))) 1 (c_X10_volumes q h w (by omega) hM) gX10_isWorse_X10_volumes (q0 := 0) (ci := 8) (by decide +kernel) rfl rfl rfl ⟨by decide, by decide⟩ [0, 1, 2, 3, 4, 5, 6] rfl (by decide) rfl (Nat.le_of_ble_eq_true rfl) rfl rfl dX10_isWorse_66 ?_ hkR
      refine z_icmp_ge hC 76 dX10_isWorse_69 (by decide) (fun c_69 => ?_) (fun c_69 => ?_)
      · refine z_iconst hC (nI 0) (by decide +kernel) dX10_isWorse_76 ?_
        refine z_goto hC 90 dX10_isWorse_77 (by decide) ?_
        exact z_zret hC hf rfl (by decide +kernel) (by simp only [iwM, if_pos c_30, if_neg c_56, if_pos c_69]) rfl dX10_isWorse_90
      · refine z_iconst hC (nI 1) (by decide +kernel) dX10_isWorse_72 ?_
        refine z_goto hC 90 dX10_isWorse_73 (by decide) ?_
        exact z_zret hC hf rfl (by decide +kernel) (by simp only [iwM, if_pos c_30, if_neg c_56, if_neg c_69]) rfl dX10_isWorse_90
  · refine z_iload hC 1 rfl dX10_isWorse_33 ?_
    refine z_iload hC 0 rfl dX10_isWorse_35 ?_
    refine z_icmp_ge hC 44 dX10_isWorse_37 (by decide) (fun c_37 => ?_) (fun c_37 => ?_)
    · refine z_iconst hC (nI 0) (by decide +kernel) dX10_isWorse_44 ?_
      exact z_zret hC hf rfl (by decide +kernel) (by simp only [iwM, if_neg c_30, if_pos c_37]) rfl dX10_isWorse_45
    · refine z_iconst hC (nI 1) (by decide +kernel) dX10_isWorse_40 ?_
      refine z_goto hC 45 dX10_isWorse_41 (by decide) ?_
      exact z_zret hC hf rfl (by decide +kernel) (by simp only [iwM, if_neg c_30, if_neg c_37]) rfl dX10_isWorse_45

theorem iX10_count_X10 : ∀ w ∈ u_ws RX10 TX10 15, w ∈ wsX10_count := by decide +kernel
set_option maxHeartbeats 4000000 in
set_option maxRecDepth 100000 in
/-- count -/
theorem c_X10_count {l : Launch} {y : zY} {D : va_G} (q : Nat → Nat) (h : Nat → Nat → Int32) (hM : okM (h 1)) (hB : okBm (h 1)) (hCh : okCh (h 1)) : zM l y D yX10_count wsX10_count 2 48 [.ref (q 0)] (zMo y q h) (zMo y q (ctG9 h)) (none) := by
  refine z_start (own := RX10) (cc := cX10_count) (maxL := 6) (ret := none) rfl (by decide +kernel) rfl (Nat.le_of_ble_eq_true rfl) (zMo_fst _ _ _ _) ?_
  intro E hEl hEy hED hC hf
  subst hEl hEy hED
  have hkR : 0 ≤ E.2.2.2.2.2.1.cells ∧ 0 ≤ E.2.2.2.2.2.1.slots := ⟨Nat.zero_le _, Nat.zero_le _⟩
  refine z_cast (lv := [(0, .ref (q 0))]) (ws := (zMo (zy E) q h)) (st := []) ?_ rfl rfl rfl
  refine z_iconst hC (nI 0) (by decide +kernel) dX10_count_0 ?_
  refine z_istore_n hC (by decide) (lv' := [(1, .int (nI 0)), (0, .ref (q 0))]) rfl dX10_count_1 ?_
  refine z_iconst hC (nI 0) (by decide +kernel) dX10_count_2 ?_
  refine z_istore_n hC (by decide) (lv' := [(2, .int (nI 0)), (1, .int (nI 0)), (0, .ref (q 0))]) rfl dX10_count_3 ?_
  refine z_iconst hC (nI 0) (by decide +kernel) dX10_count_4 ?_
  refine z_istore_n hC (by decide) (lv' := [(3, .int (nI 0)), (2, .int (nI 0)), (1, .int (nI 0)), (0, .ref (q 0))]) rfl dX10_count_5 ?_
  have lp_6 : ∀ (d_6 i : Nat), 8 < i + d_6 → i ≤ 8 → Z E 0 0 [(0, .ref (q 0)), (1, .int (cxM (h 1) i)), (2, .int (nI (cmM (h 1) i))), (3, .int (nI i))] (zMo (zy E) q h) 6 [] := by
    intro d_6
    induction d_6 with
    | zero => intro i  q1 q2; omega
    | succ d_6 ih_6 =>
      intro i  q1_6 q2_6 
      refine z_iload_n hC 3 rfl dX10_count_6 ?_
      refine z_bipush hC (nI 8) (by decide +kernel) dX10_count_7 ?_
      refine z_icmp_ge hC 60 dX10_count_9 (by decide) (fun c_9 => ?_) (fun c_9 => ?_)
      · have k_9 : 8 ≤ i := (nI_leI (by omega) (by omega)).mp c_9
        obtain rfl : i = 8 := by omega
        refine z_aload_n hC 0 rfl dX10_count_60 ?_
        refine z_iconst hC (nI 0) (by decide +kernel) dX10_count_61 ?_
        refine z_put hC 0 8 6 (ws' := zMo (zy E) q (va_up h 0 (upd (h 0) 2 (nI 0)))) tyX10 .int rfl rfl iX10_count_X10 tyX10_ok nmX10 (by decide) (List.mem_of_getElem? (i := 2) (by decide +kernel)) rfl rfl (by decide +kernel) rfl rfl (Nat.le_of_ble_eq_true rfl) rfl dX10_count_62 ?_
        refine z_aload_n hC 0 rfl dX10_count_65 ?_
        refine z_iconst hC ((-1)) (by decide +kernel) dX10_count_66 ?_
        refine z_put hC 0 8 7 (ws' := zMo (zy E) q (va_up h 0 (upd (upd (h 0) 2 (nI 0)) 3 (-1)))) tyX10 .int rfl rfl iX10_count_X10 tyX10_ok nmX10 (by decide) (List.mem_of_getElem? (i := 3) (by decide +kernel)) rfl rfl (by decide +kernel) rfl rfl (Nat.le_of_ble_eq_true rfl) rfl dX10_count_67 ?_
        have lp_70 : ∀ (d_70 t : Nat) (m9 : Nat) (x9 W9 : Int32) (V9 : Nat → Int32), 8 < t + d_70 → t ≤ 8 → (ctR (h 1) (8 - t) t m9 x9 W9 V9 = ctC h) → (t + m9 ≤ 8) → Z E 0 0 [(0, .ref (q 0)), (1, .int x9), (2, .int (nI m9))] (zMo (zy E) q (va_up (va_up h 0 (upd (upd (h 0) 2 (nI t)) 3 W9)) 4 V9)) 70 [] := by
          intro d_70
          induction d_70 with
          | zero => intro t m9 x9 W9 V9 q1 q2; omega
          | succ d_70 ih_70 =>
            intro t m9 x9 W9 V9 q1_70 q2_70 hct htm
            refine z_iload_n hC 2 rfl dX10_count_70 ?_
            refine z_if_le hC 215 dX10_count_71 (by decide) (fun c_71 => ?_) (fun c_71 => ?_)
            · have hm0 : m9 = 0 := by rw [show (0 : Int32) = nI 0 from rfl, nI_leI (by omega) (by omega)] at c_71; omega
              have hR := (ct_step htm hct).1 hm0
              exact z_vret hC hf rfl rfl (by unfold ctG9; rw [hR]) dX10_count_215
            · have hm0 : ¬ m9 = 0 := fun e => c_71 (by rw [e]; decide +kernel)
              refine z_aload_n hC 0 rfl dX10_count_74 ?_
              refine z_get hC 0 8 7 (v := .int ((upd (upd (h 0) 2 (nI t)) 3 W9) 3)) rfl rfl iX10_count_X10 (by decide) (List.mem_of_getElem? (i := 3) (by decide +kernel)) rfl rfl dX10_count_75 ?_
              refine z_iconst hC ((-1)) (by decide +kernel) dX10_count_78 ?_
              refine z_icmp_ne hC 215 dX10_count_79 (by decide) (fun c_79 => ?_) (fun c_79 => ?_)
              · have hR := (ct_step htm hct).2.1 c_79
                exact z_vret hC hf rfl rfl (by unfold ctG9; rw [hR]) dX10_count_215
              · refine z_aload_n hC 0 rfl dX10_count_82 ?_
                refine z_aload_n hC 0 rfl dX10_count_83 ?_
                refine z_get hC 0 8 6 (v := .int ((upd (upd (h 0) 2 (nI t)) 3 W9) 2)) rfl rfl iX10_count_X10 (by decide) (List.mem_of_getElem? (i := 2) (by decide +kernel)) rfl rfl dX10_count_84 ?_
                refine z_top (nI t) rfl ?_
                refine z_iload_n hC 1 rfl dX10_count_87 ?_
                refine z_callV hC (As := [.int (nI t), .int x9]) (st := []) (ws2 := zMo (zy E) q (va_up (va_up (va_up h 0 (upd (upd (h 0) 2 (nI t)) 3 W9)) 4 V9) 4 (crC9 (va_up (va_up h 0 (upd (upd (h 0) 2 (nI t)) 3 W9)) 4 V9) t x9).1)) (B := zMo (zy E) q (va_up (va_up h 0 (upd (upd (h 0) 2 (nI t)) 3 W9)) 4 V9)) (B' := zMo (zy E) q (va_up (va_up (va_up h 0 (upd (upd (h 0) 2 (nI t)) 3 W9)) 4 V9) 4 (crC9 (va_up (va_up h 0 (upd (upd (h 0) 2 (nI t)) 3 W9)) 4 V9) t x9).1)) (r := some (.int ((crC9 (va_up (va_up h 0 (upd (upd (h 0) 2 (nI t)) 3 W9)) 4 V9) t x9).2))) 2 (c_X10_countRound q (va_up (va_up h 0 (upd (upd (h 0) 2 (nI t)) 3 W9)) 4 V9) t x9 (by omega) hB hCh) gX10_count_X10_countRound (q0 := 0) (ci := 8) (by decide +kernel) rfl rfl rfl ⟨by decide, by decide⟩ [0, 1, 2, 3, 4, 5, 6] rfl (by decide) rfl (Nat.le_of_ble_eq_true rfl) rfl rfl dX10_count_88 ?_ hkR
                refine z_top ((crI V9 (h 1) t x9 (zbm (h 1))).2) rfl ?_
                refine z_istore_n hC (by decide) (lv' := [(3, .int ((crI V9 (h 1) t x9 (zbm (h 1))).2)), (0, .ref (q 0)), (1, .int x9), (2, .int (nI m9))]) rfl dX10_count_91 ?_
                refine z_iconst hC ((-1)) (by decide +kernel) dX10_count_92 ?_
                refine z_istore hC (by decide) (lv' := [(4, .int (-1)), (3, .int ((crI V9 (h 1) t x9 (zbm (h 1))).2)), (0, .ref (q 0)), (1, .int x9), (2, .int (nI m9))]) rfl dX10_count_93 ?_
                refine z_iconst hC (nI 0) (by decide +kernel) dX10_count_95 ?_
                refine z_istore hC (by decide) (lv' := [(5, .int (nI 0)), (4, .int (-1)), (3, .int ((crI V9 (h 1) t x9 (zbm (h 1))).2)), (0, .ref (q 0)), (1, .int x9), (2, .int (nI m9))]) rfl dX10_count_96 ?_
                have lp_98 : ∀ (d_98 i : Nat), 8 < i + d_98 → i ≤ 8 → Z E 0 0 [(0, .ref (q 0)), (1, .int x9), (2, .int (nI m9)), (3, .int ((crI V9 (h 1) t x9 (zbm (h 1))).2)), (4, .int ((scI (crI V9 (h 1) t x9 (zbm (h 1))).1 (h 1) t m9 x9 (crI V9 (h 1) t x9 (zbm (h 1))).2 W9 i).2)), (5, .int (nI i))] (zMo (zy E) q (va_up (va_up h 0 (upd (upd (h 0) 2 (nI t)) 3 ((scI (crI V9 (h 1) t x9 (zbm (h 1))).1 (h 1) t m9 x9 (crI V9 (h 1) t x9 (zbm (h 1))).2 W9 i).1))) 4 ((crI V9 (h 1) t x9 (zbm (h 1))).1))) 98 [] := by
                  intro d_98
                  induction d_98 with
                  | zero => intro i  q1 q2; omega
                  | succ d_98 ih_98 =>
                    intro i  q1_98 q2_98 
                    refine z_iload hC 5 rfl dX10_count_98 ?_
                    refine z_bipush hC (nI 8) (by decide +kernel) dX10_count_100 ?_
                    refine z_icmp_ge hC 190 dX10_count_102 (by decide) (fun c_102 => ?_) (fun c_102 => ?_)
                    · have k_102 : 8 ≤ i := (nI_leI (by omega) (by omega)).mp c_102
                      obtain rfl : i = 8 := by omega
                      refine z_iload_n hC 1 rfl dX10_count_190 ?_
                      refine z_iconst hC (nI 1) (by decide +kernel) dX10_count_191 ?_
                      refine z_iload hC 4 rfl dX10_count_192 ?_
                      refine z_ishl hC dX10_count_194 ?_
                      refine z_iconst hC ((-1)) (by decide +kernel) dX10_count_195 ?_
                      refine z_ixor hC dX10_count_196 ?_
                      refine z_iand hC dX10_count_197 ?_
                      refine z_istore_n hC (by decide) (lv' := [(1, .int (x9 &&& (((nI 1) <<< (((scI (crI V9 (h 1) t x9 (zbm (h 1))).1 (h 1) t m9 x9 (crI V9 (h 1) t x9 (zbm (h 1))).2 W9 8).2) &&& 31)) ^^^ (-1)))), (0, .ref (q 0)), (2, .int (nI m9)), (3, .int ((crI V9 (h 1) t x9 (zbm (h 1))).2)), (4, .int ((scI (crI V9 (h 1) t x9 (zbm (h 1))).1 (h 1) t m9 x9 (crI V9 (h 1) t x9 (zbm (h 1))).2 W9 8).2)), (5, .int (nI 8))]) rfl dX10_count_198 ?_
                      refine z_iinc hC 2 (nI (m9 - 1)) rfl (nI_dec hm0) (by decide) (lv' := [(2, .int (nI (m9 - 1))), (1, .int (x9 &&& (((nI 1) <<< (((scI (crI V9 (h 1) t x9 (zbm (h 1))).1 (h 1) t m9 x9 (crI V9 (h 1) t x9 (zbm (h 1))).2 W9 8).2) &&& 31)) ^^^ (-1)))), (0, .ref (q 0)), (3, .int ((crI V9 (h 1) t x9 (zbm (h 1))).2)), (4, .int ((scI (crI V9 (h 1) t x9 (zbm (h 1))).1 (h 1) t m9 x9 (crI V9 (h 1) t x9 (zbm (h 1))).2 W9 8).2)), (5, .int (nI 8))]) rfl dX10_count_199 ?_
                      refine z_aload_n hC 2 rfl dX10_count_202 ?_
                      refine z_dup hC dX10_count_203 rfl ?_
                      refine z_get hC 0 8 6 (v := .int ((upd (upd (h 0) 2 (nI t)) 3 ((scI (crI V9 (h 1) t x9 (zbm (h 1))).1 (h 1) t m9 x9 (crI V9 (h 1) t x9 (zbm (h 1))).2 W9 8).1)) 2)) rfl rfl iX10_count_X10 (by decide) (List.mem_of_getElem? (i := 2) (by decide +kernel)) rfl rfl dX10_count_204 ?_
                      refine z_top (nI t) rfl ?_
                      refine z_iconst hC (nI 1) (by decide +kernel) dX10_count_207 ?_
                      refine z_iadd hC dX10_count_208 ?_
                      refine z_top (nI (t + 1)) (nI_add _ _) ?_
                      refine z_put hC 0 8 6 (ws' := zMo (zy E) q (va_up (va_up h 0 (upd (upd (upd (h 0) 2 (nI t)) 3 ((scI (crI V9 (h 1) t x9 (zbm (h 1))).1 (h 1) t m9 x9 (crI V9 (h 1) t x9 (zbm (h 1))).2 W9 8).1)) 2 (nI (t + 1)))) 4 ((crI V9 (h 1) t x9 (zbm (h 1))).1))) tyX10 .int rfl rfl iX10_count_X10 tyX10_ok nmX10 (by decide) (List.mem_of_getElem? (i := 2) (by decide +kernel)) rfl rfl (by decide +kernel) rfl rfl (Nat.le_of_ble_eq_true rfl) rfl dX10_count_209 ?_
                      refine z_goto hC 70 dX10_count_212 (by decide) ?_
                      refine z_sub [2, 1, 0] (lv' := [(0, .ref (q 0)), (1, .int (x9 &&& (((nI 1) <<< (((scI (crI V9 (h 1) t x9 (zbm (h 1))).1 (h 1) t m9 x9 (crI V9 (h 1) t x9 (zbm (h 1))).2 W9 8).2) &&& 31)) ^^^ (-1)))), (2, .int (nI (m9 - 1)))]) rfl ?_
                      exact z_cast (ih_70 (t + 1) (m9 - 1) (x9 &&& ((nI 1 <<< ((scI (crI V9 (h 1) t x9 (zbm (h 1))).1 (h 1) t m9 x9 (crI V9 (h 1) t x9 (zbm (h 1))).2 W9 8).2 &&& 31)) ^^^ (-1))) ((scI (crI V9 (h 1) t x9 (zbm (h 1))).1 (h 1) t m9 x9 (crI V9 (h 1) t x9 (zbm (h 1))).2 W9 8).1) ((crI V9 (h 1) t x9 (zbm (h 1))).1) (by omega) (by omega) ((ct_step htm hct).2.2 hm0 c_79) (by omega)) rfl rfl rfl
                    · have k_102 : ¬ (8 ≤ i) := fun q => c_102 ((nI_leI (by omega) (by omega)).mpr q)
                      refine z_iload_n hC 1 rfl dX10_count_105 ?_
                      refine z_iload hC 5 rfl dX10_count_106 ?_
                      refine z_ishr hC dX10_count_108 ?_
                      refine z_iconst hC (nI 1) (by decide +kernel) dX10_count_109 ?_
                      refine z_iand hC dX10_count_110 ?_
                      refine z_top (stB x9 (nI i)) rfl ?_
                      refine z_iconst hC (nI 1) (by decide +kernel) dX10_count_111 ?_
                      refine z_icmp_ne hC 184 dX10_count_112 (by decide) (fun c_112 => ?_) (fun c_112 => ?_)
                      · refine z_iinc hC 5 (nI (i + 1)) rfl z_i1 (by decide) (lv' := [(5, .int (nI (i + 1))), (0, .ref (q 0)), (1, .int x9), (2, .int (nI m9)), (3, .int ((crI V9 (h 1) t x9 (zbm (h 1))).2)), (4, .int ((scI (crI V9 (h 1) t x9 (zbm (h 1))).1 (h 1) t m9 x9 (crI V9 (h 1) t x9 (zbm (h 1))).2 W9 i).2))]) rfl dX10_count_184 ?_
                        refine z_goto hC 98 dX10_count_187 (by decide) ?_
                        refine z_sub [1, 2, 3, 4, 5, 0] (lv' := [(0, .ref (q 0)), (1, .int x9), (2, .int (nI m9)), (3, .int ((crI V9 (h 1) t x9 (zbm (h 1))).2)), (4, .int ((scI (crI V9 (h 1) t x9 (zbm (h 1))).1 (h 1) t m9 x9 (crI V9 (h 1) t x9 (zbm (h 1))).2 W9 i).2)), (5, .int (nI (i + 1)))]) rfl ?_
                        exact z_cast (ih_98 (i + 1) (by omega) (by omega)) (by simp only [scI, if_neg c_112] <;> rfl) (by simp only [scI, if_neg c_112] <;> rfl) rfl
                      · refine z_aload_n hC 0 rfl dX10_count_115 ?_
                        refine z_iload_n hC 2 rfl dX10_count_116 ?_
                        refine z_iconst hC (nI 1) (by decide +kernel) dX10_count_117 ?_
                        refine z_icmp_eq hC 142 dX10_count_118 (by decide) (fun c_118 => ?_) (fun c_118 => ?_)
                        · have k_118 : m9 = 1 := (nI_eq (by omega) (by omega)).mp c_118
                          refine z_iload hC 5 rfl dX10_count_142 ?_
                          refine z_goto hC 151 dX10_count_144 (by decide) ?_
                          refine z_put hC 0 8 7 (ws' := zMo (zy E) q (va_up (va_up h 0 (upd (upd (upd (h 0) 2 (nI t)) 3 ((scI (crI V9 (h 1) t x9 (zbm (h 1))).1 (h 1) t m9 x9 (crI V9 (h 1) t x9 (zbm (h 1))).2 W9 i).1)) 3 (nI i))) 4 ((crI V9 (h 1) t x9 (zbm (h 1))).1))) tyX10 .int rfl rfl iX10_count_X10 tyX10_ok nmX10 (by decide) (List.mem_of_getElem? (i := 3) (by decide +kernel)) rfl rfl (by decide +kernel) rfl rfl (Nat.le_of_ble_eq_true rfl) rfl dX10_count_151 ?_
                          refine z_iload hC 4 rfl dX10_count_154 ?_
                          refine z_iconst hC ((-1)) (by decide +kernel) dX10_count_156 ?_
                          refine z_icmp_eq hC 175 dX10_count_157 (by decide) (fun c_157 => ?_) (fun c_157 => ?_)
                          · refine z_iload hC 5 rfl dX10_count_175 ?_
                            refine z_goto hC 182 dX10_count_177 (by decide) ?_
                            refine z_istore hC (by decide) (lv' := [(4, .int (nI i)), (0, .ref (q 0)), (1, .int x9), (2, .int (nI m9)), (3, .int ((crI V9 (h 1) t x9 (zbm (h 1))).2)), (5, .int (nI i))]) rfl dX10_count_182 ?_
                            refine z_iinc hC 5 (nI (i + 1)) rfl z_i1 (by decide) (lv' := [(5, .int (nI (i + 1))), (4, .int (nI i)), (0, .ref (q 0)), (1, .int x9), (2, .int (nI m9)), (3, .int ((crI V9 (h 1) t x9 (zbm (h 1))).2))]) rfl dX10_count_184 ?_
                            refine z_goto hC 98 dX10_count_187 (by decide) ?_
                            refine z_sub [2, 3, 4, 5, 1, 0] (lv' := [(0, .ref (q 0)), (1, .int x9), (2, .int (nI m9)), (3, .int ((crI V9 (h 1) t x9 (zbm (h 1))).2)), (4, .int (nI i)), (5, .int (nI (i + 1)))]) rfl ?_
                            exact z_cast (ih_98 (i + 1) (by omega) (by omega)) (by simp only [scI, if_pos c_112, if_pos k_118, if_pos c_157] <;> rfl) (by simp only [scI, if_pos c_112, if_pos k_118, if_pos c_157] <;> rfl) rfl
                          · obtain ⟨j, hj8, hj⟩ := scI_nat (crI V9 (h 1) t x9 (zbm (h 1))).1 (h 1) t m9 x9 (crI V9 (h 1) t x9 (zbm (h 1))).2 W9 i (by omega) c_157
                            have hjc : (scI (crI V9 (h 1) t x9 (zbm (h 1))).1 (h 1) t m9 x9 (crI V9 (h 1) t x9 (zbm (h 1))).2 W9 i).2.toNatClampNeg = j := by rw [hj]; exact nI_clamp (by omega)
                            refine z_aload_n hC 0 rfl dX10_count_160 ?_
                            refine z_aload_n hC 0 rfl dX10_count_161 ?_
                            refine z_get hC 0 8 6 (v := .int ((upd (upd (upd (h 0) 2 (nI t)) 3 ((scI (crI V9 (h 1) t x9 (zbm (h 1))).1 (h 1) t m9 x9 (crI V9 (h 1) t x9 (zbm (h 1))).2 W9 i).1)) 3 (nI i)) 2)) rfl rfl iX10_count_X10 (by decide) (List.mem_of_getElem? (i := 2) (by decide +kernel)) rfl rfl dX10_count_162 ?_
                            refine z_top (nI t) rfl ?_
                            refine z_iload hC 5 rfl dX10_count_165 ?_
                            refine z_iload hC 4 rfl dX10_count_167 ?_
                            refine z_top (nI j) hj ?_
                            refine z_callV hC (As := [.int (nI t), .int (nI i), .int (nI j)]) (st := []) (ws2 := zMo (zy E) q (va_up (va_up h 0 (upd (upd (upd (h 0) 2 (nI t)) 3 ((scI (crI V9 (h 1) t x9 (zbm (h 1))).1 (h 1) t m9 x9 (crI V9 (h 1) t x9 (zbm (h 1))).2 W9 i).1)) 3 (nI i))) 4 ((crI V9 (h 1) t x9 (zbm (h 1))).1))) (B := zMo (zy E) q (va_up (va_up h 0 (upd (upd (upd (h 0) 2 (nI t)) 3 ((scI (crI V9 (h 1) t x9 (zbm (h 1))).1 (h 1) t m9 x9 (crI V9 (h 1) t x9 (zbm (h 1))).2 W9 i).1)) 3 (nI i))) 4 ((crI V9 (h 1) t x9 (zbm (h 1))).1))) (B' := zMo (zy E) q (va_up (va_up h 0 (upd (upd (upd (h 0) 2 (nI t)) 3 ((scI (crI V9 (h 1) t x9 (zbm (h 1))).1 (h 1) t m9 x9 (crI V9 (h 1) t x9 (zbm (h 1))).2 W9 i).1)) 3 (nI i))) 4 ((crI V9 (h 1) t x9 (zbm (h 1))).1))) (r := some (.int (iwM ((va_up (va_up h 0 (upd (upd (upd (h 0) 2 (nI t)) 3 ((scI (crI V9 (h 1) t x9 (zbm (h 1))).1 (h 1) t m9 x9 (crI V9 (h 1) t x9 (zbm (h 1))).2 W9 i).1)) 3 (nI i))) 4 ((crI V9 (h 1) t x9 (zbm (h 1))).1)) 4) ((va_up (va_up h 0 (upd (upd (upd (h 0) 2 (nI t)) 3 ((scI (crI V9 (h 1) t x9 (zbm (h 1))).1 (h 1) t m9 x9 (crI V9 (h 1) t x9 (zbm (h 1))).2 W9 i).1)) 3 (nI i))) 4 ((crI V9 (h 1) t x9 (zbm (h 1))).1)) 1) t i j))) 3 (c_X10_isWorse q (va_up (va_up h 0 (upd (upd (upd (h 0) 2 (nI t)) 3 ((scI (crI V9 (h 1) t x9 (zbm (h 1))).1 (h 1) t m9 x9 (crI V9 (h 1) t x9 (zbm (h 1))).2 W9 i).1)) 3 (nI i))) 4 ((crI V9 (h 1) t x9 (zbm (h 1))).1)) t i j (by omega) (by omega) (by omega) hM) gX10_count_X10_isWorse (q0 := 0) (ci := 8) (by decide +kernel) rfl rfl rfl ⟨by decide, by decide⟩ [0, 1, 2, 3, 4, 5, 6] rfl (by decide) rfl (Nat.le_of_ble_eq_true rfl) rfl rfl dX10_count_169 ?_ hkR
                            refine z_top (iwM (crI V9 (h 1) t x9 (zbm (h 1))).1 (h 1) t i j) rfl ?_
                            refine z_if_eq hC 180 dX10_count_172 (by decide) (fun c_172 => ?_) (fun c_172 => ?_)
                            · refine z_iload hC 4 rfl dX10_count_180 ?_
                              refine z_istore hC (by decide) (lv' := [(4, .int ((scI (crI V9 (h 1) t x9 (zbm (h 1))).1 (h 1) t m9 x9 (crI V9 (h 1) t x9 (zbm (h 1))).2 W9 i).2)), (0, .ref (q 0)), (1, .int x9), (2, .int (nI m9)), (3, .int ((crI V9 (h 1) t x9 (zbm (h 1))).2)), (5, .int (nI i))]) rfl dX10_count_182 ?_
                              refine z_iinc hC 5 (nI (i + 1)) rfl z_i1 (by decide) (lv' := [(5, .int (nI (i + 1))), (4, .int ((scI (crI V9 (h 1) t x9 (zbm (h 1))).1 (h 1) t m9 x9 (crI V9 (h 1) t x9 (zbm (h 1))).2 W9 i).2)), (0, .ref (q 0)), (1, .int x9), (2, .int (nI m9)), (3, .int ((crI V9 (h 1) t x9 (zbm (h 1))).2))]) rfl dX10_count_184 ?_
                              refine z_goto hC 98 dX10_count_187 (by decide) ?_
                              refine z_sub [2, 3, 4, 5, 1, 0] (lv' := [(0, .ref (q 0)), (1, .int x9), (2, .int (nI m9)), (3, .int ((crI V9 (h 1) t x9 (zbm (h 1))).2)), (4, .int ((scI (crI V9 (h 1) t x9 (zbm (h 1))).1 (h 1) t m9 x9 (crI V9 (h 1) t x9 (zbm (h 1))).2 W9 i).2)), (5, .int (nI (i + 1)))]) rfl ?_
                              exact z_cast (ih_98 (i + 1) (by omega) (by omega)) (by simp only [scI, if_pos c_112, if_pos k_118, if_neg c_157, hjc, if_pos c_172] <;> rfl) (by simp only [scI, if_pos c_112, if_pos k_118, if_neg c_157, hjc, if_pos c_172] <;> rfl) rfl
                            · refine z_iload hC 5 rfl dX10_count_175 ?_
                              refine z_goto hC 182 dX10_count_177 (by decide) ?_
                              refine z_istore hC (by decide) (lv' := [(4, .int (nI i)), (0, .ref (q 0)), (1, .int x9), (2, .int (nI m9)), (3, .int ((crI V9 (h 1) t x9 (zbm (h 1))).2)), (5, .int (nI i))]) rfl dX10_count_182 ?_
                              refine z_iinc hC 5 (nI (i + 1)) rfl z_i1 (by decide) (lv' := [(5, .int (nI (i + 1))), (4, .int (nI i)), (0, .ref (q 0)), (1, .int x9), (2, .int (nI m9)), (3, .int ((crI V9 (h 1) t x9 (zbm (h 1))).2))]) rfl dX10_count_184 ?_
                              refine z_goto hC 98 dX10_count_187 (by decide) ?_
                              refine z_sub [2, 3, 4, 5, 1, 0] (lv' := [(0, .ref (q 0)), (1, .int x9), (2, .int (nI m9)), (3, .int ((crI V9 (h 1) t x9 (zbm (h 1))).2)), (4, .int (nI i)), (5, .int (nI (i + 1)))]) rfl ?_
                              exact z_cast (ih_98 (i + 1) (by omega) (by omega)) (by simp only [scI, if_pos c_112, if_pos k_118, if_neg c_157, hjc, if_neg c_172] <;> rfl) (by simp only [scI, if_pos c_112, if_pos k_118, if_neg c_157, hjc, if_neg c_172] <;> rfl) rfl
                        · have k_118 : ¬ (m9 = 1) := fun q => c_118 ((nI_eq (by omega) (by omega)).mpr q)
                          refine z_iconst hC (nI 2) (by decide +kernel) dX10_count_121 ?_
                          refine z_aload_n hC 0 rfl dX10_count_122 ?_
                          refine z_get hC 0 8 5 (v := .ref (q 4)) rfl rfl iX10_count_X10 (by decide) (List.mem_of_getElem? (i := 4) (by decide +kernel)) rfl rfl dX10_count_123 ?_
                          refine z_bipush hC (nI 8) (by decide +kernel) dX10_count_126 ?_
                          refine z_aload_n hC 0 rfl dX10_count_128 ?_
                          refine z_get hC 0 8 6 (v := .int ((upd (upd (h 0) 2 (nI t)) 3 ((scI (crI V9 (h 1) t x9 (zbm (h 1))).1 (h 1) t m9 x9 (crI V9 (h 1) t x9 (zbm (h 1))).2 W9 i).1)) 2)) rfl rfl iX10_count_X10 (by decide) (List.mem_of_getElem? (i := 2) (by decide +kernel)) rfl rfl dX10_count_129 ?_
                          refine z_top (nI t) rfl ?_
                          refine z_imul hC dX10_count_132 ?_
                          refine z_top (nI (8 * t)) (pk_mul _ _) ?_
                          refine z_iload hC 5 rfl dX10_count_133 ?_
                          refine z_iadd hC dX10_count_135 ?_
                          refine z_top (nI ((8 * t) + i)) (nI_add _ _) ?_
                          refine z_iald hC 4 ((8 * t) + i) (f := (crI V9 (h 1) t x9 (zbm (h 1))).1) rfl rfl rfl (by omega) (by decide) dX10_count_136 ?_
                          refine z_imul hC dX10_count_137 ?_
                          refine z_iload_n hC 3 rfl dX10_count_138 ?_
                          refine z_icmp_le hC 147 dX10_count_139 (by decide) (fun c_139 => ?_) (fun c_139 => ?_)
                          · refine z_aload_n hC 0 rfl dX10_count_147 ?_
                            refine z_get hC 0 8 7 (v := .int ((upd (upd (h 0) 2 (nI t)) 3 ((scI (crI V9 (h 1) t x9 (zbm (h 1))).1 (h 1) t m9 x9 (crI V9 (h 1) t x9 (zbm (h 1))).2 W9 i).1)) 3)) rfl rfl iX10_count_X10 (by decide) (List.mem_of_getElem? (i := 3) (by decide +kernel)) rfl rfl dX10_count_148 ?_
                            refine z_top ((scI (crI V9 (h 1) t x9 (zbm (h 1))).1 (h 1) t m9 x9 (crI V9 (h 1) t x9 (zbm (h 1))).2 W9 i).1) rfl ?_
                            refine z_put hC 0 8 7 (ws' := zMo (zy E) q (va_up (va_up h 0 (upd (upd (upd (h 0) 2 (nI t)) 3 ((scI (crI V9 (h 1) t x9 (zbm (h 1))).1 (h 1) t m9 x9 (crI V9 (h 1) t x9 (zbm (h 1))).2 W9 i).1)) 3 ((scI (crI V9 (h 1) t x9 (zbm (h 1))).1 (h 1) t m9 x9 (crI V9 (h 1) t x9 (zbm (h 1))).2 W9 i).1))) 4 ((crI V9 (h 1) t x9 (zbm (h 1))).1))) tyX10 .int rfl rfl iX10_count_X10 tyX10_ok nmX10 (by decide) (List.mem_of_getElem? (i := 3) (by decide +kernel)) rfl rfl (by decide +kernel) rfl rfl (Nat.le_of_ble_eq_true rfl) rfl dX10_count_151 ?_
                            refine z_iload hC 4 rfl dX10_count_154 ?_
                            refine z_iconst hC ((-1)) (by decide +kernel) dX10_count_156 ?_
                            refine z_icmp_eq hC 175 dX10_count_157 (by decide) (fun c_157 => ?_) (fun c_157 => ?_)
                            · refine z_iload hC 5 rfl dX10_count_175 ?_
                              refine z_goto hC 182 dX10_count_177 (by decide) ?_
                              refine z_istore hC (by decide) (lv' := [(4, .int (nI i)), (0, .ref (q 0)), (1, .int x9), (2, .int (nI m9)), (3, .int ((crI V9 (h 1) t x9 (zbm (h 1))).2)), (5, .int (nI i))]) rfl dX10_count_182 ?_
                              refine z_iinc hC 5 (nI (i + 1)) rfl z_i1 (by decide) (lv' := [(5, .int (nI (i + 1))), (4, .int (nI i)), (0, .ref (q 0)), (1, .int x9), (2, .int (nI m9)), (3, .int ((crI V9 (h 1) t x9 (zbm (h 1))).2))]) rfl dX10_count_184 ?_
                              refine z_goto hC 98 dX10_count_187 (by decide) ?_
                              refine z_sub [2, 3, 4, 5, 1, 0] (lv' := [(0, .ref (q 0)), (1, .int x9), (2, .int (nI m9)), (3, .int ((crI V9 (h 1) t x9 (zbm (h 1))).2)), (4, .int (nI i)), (5, .int (nI (i + 1)))]) rfl ?_
                              exact z_cast (ih_98 (i + 1) (by omega) (by omega)) (by simp only [scI, if_pos c_112, if_neg k_118, if_pos c_139, if_pos c_157] <;> rfl) (by simp only [scI, if_pos c_112, if_neg k_118, if_pos c_139, if_pos c_157] <;> rfl) rfl
                            · obtain ⟨j, hj8, hj⟩ := scI_nat (crI V9 (h 1) t x9 (zbm (h 1))).1 (h 1) t m9 x9 (crI V9 (h 1) t x9 (zbm (h 1))).2 W9 i (by omega) c_157
                              have hjc : (scI (crI V9 (h 1) t x9 (zbm (h 1))).1 (h 1) t m9 x9 (crI V9 (h 1) t x9 (zbm (h 1))).2 W9 i).2.toNatClampNeg = j := by rw [hj]; exact nI_clamp (by omega)
                              refine z_aload_n hC 0 rfl dX10_count_160 ?_
                              refine z_aload_n hC 0 rfl dX10_count_161 ?_
                              refine z_get hC 0 8 6 (v := .int ((upd (upd (upd (h 0) 2 (nI t)) 3 ((scI (crI V9 (h 1) t x9 (zbm (h 1))).1 (h 1) t m9 x9 (crI V9 (h 1) t x9 (zbm (h 1))).2 W9 i).1)) 3 ((scI (crI V9 (h 1) t x9 (zbm (h 1))).1 (h 1) t m9 x9 (crI V9 (h 1) t x9 (zbm (h 1))).2 W9 i).1)) 2)) rfl rfl iX10_count_X10 (by decide) (List.mem_of_getElem? (i := 2) (by decide +kernel)) rfl rfl dX10_count_162 ?_
                              refine z_top (nI t) rfl ?_
                              refine z_iload hC 5 rfl dX10_count_165 ?_
                              refine z_iload hC 4 rfl dX10_count_167 ?_
                              refine z_top (nI j) hj ?_
                              refine z_callV hC (As := [.int (nI t), .int (nI i), .int (nI j)]) (st := []) (ws2 := zMo (zy E) q (va_up (va_up h 0 (upd (upd (upd (h 0) 2 (nI t)) 3 ((scI (crI V9 (h 1) t x9 (zbm (h 1))).1 (h 1) t m9 x9 (crI V9 (h 1) t x9 (zbm (h 1))).2 W9 i).1)) 3 ((scI (crI V9 (h 1) t x9 (zbm (h 1))).1 (h 1) t m9 x9 (crI V9 (h 1) t x9 (zbm (h 1))).2 W9 i).1))) 4 ((crI V9 (h 1) t x9 (zbm (h 1))).1))) (B := zMo (zy E) q (va_up (va_up h 0 (upd (upd (upd (h 0) 2 (nI t)) 3 ((scI (crI V9 (h 1) t x9 (zbm (h 1))).1 (h 1) t m9 x9 (crI V9 (h 1) t x9 (zbm (h 1))).2 W9 i).1)) 3 ((scI (crI V9 (h 1) t x9 (zbm (h 1))).1 (h 1) t m9 x9 (crI V9 (h 1) t x9 (zbm (h 1))).2 W9 i).1))) 4 ((crI V9 (h 1) t x9 (zbm (h 1))).1))) (B' := zMo (zy E) q (va_up (va_up h 0 (upd (upd (upd (h 0) 2 (nI t)) 3 ((scI (crI V9 (h 1) t x9 (zbm (h 1))).1 (h 1) t m9 x9 (crI V9 (h 1) t x9 (zbm (h 1))).2 W9 i).1)) 3 ((scI (crI V9 (h 1) t x9 (zbm (h 1))).1 (h 1) t m9 x9 (crI V9 (h 1) t x9 (zbm (h 1))).2 W9 i).1))) 4 ((crI V9 (h 1) t x9 (zbm (h 1))).1))) (r := some (.int (iwM ((va_up (va_up h 0 (upd (upd (upd (h 0) 2 (nI t)) 3 ((scI (crI V9 (h 1) t x9 (zbm (h 1))).1 (h 1) t m9 x9 (crI V9 (h 1) t x9 (zbm (h 1))).2 W9 i).1)) 3 ((scI (crI V9 (h 1) t x9 (zbm (h 1))).1 (h 1) t m9 x9 (crI V9 (h 1) t x9 (zbm (h 1))).2 W9 i).1))) 4 ((crI V9 (h 1) t x9 (zbm (h 1))).1)) 4) ((va_up (va_up h 0 (upd (upd (upd (h 0) 2 (nI t)) 3 ((scI (crI V9 (h 1) t x9 (zbm (h 1))).1 (h 1) t m9 x9 (crI V9 (h 1) t x9 (zbm (h 1))).2 W9 i).1)) 3 ((scI (crI V9 (h 1) t x9 (zbm (h 1))).1 (h 1) t m9 x9 (crI V9 (h 1) t x9 (zbm (h 1))).2 W9 i).1))) 4 ((crI V9 (h 1) t x9 (zbm (h 1))).1)) 1) t i j))) 3 (c_X10_isWorse q (va_up (va_up h 0 (upd (upd (upd (h 0) 2 (nI t)) 3 ((scI (crI V9 (h 1) t x9 (zbm (h 1))).1 (h 1) t m9 x9 (crI V9 (h 1) t x9 (zbm (h 1))).2 W9 i).1)) 3 ((scI (crI V9 (h 1) t x9 (zbm (h 1))).1 (h 1) t m9 x9 (crI V9 (h 1) t x9 (zbm (h 1))).2 W9 i).1))) 4 ((crI V9 (h 1) t x9 (zbm (h 1))).1)) t i j (by omega) (by omega) (by omega) hM) gX10_count_X10_isWorse (q0 := 0) (ci := 8) (by decide +kernel) rfl rfl rfl ⟨by decide, by decide⟩ [0, 1, 2, 3, 4, 5, 6] rfl (by decide) rfl (Nat.le_of_ble_eq_true rfl) rfl rfl dX10_count_169 ?_ hkR
                              refine z_top (iwM (crI V9 (h 1) t x9 (zbm (h 1))).1 (h 1) t i j) rfl ?_
                              refine z_if_eq hC 180 dX10_count_172 (by decide) (fun c_172 => ?_) (fun c_172 => ?_)
                              · refine z_iload hC 4 rfl dX10_count_180 ?_
                                refine z_istore hC (by decide) (lv' := [(4, .int ((scI (crI V9 (h 1) t x9 (zbm (h 1))).1 (h 1) t m9 x9 (crI V9 (h 1) t x9 (zbm (h 1))).2 W9 i).2)), (0, .ref (q 0)), (1, .int x9), (2, .int (nI m9)), (3, .int ((crI V9 (h 1) t x9 (zbm (h 1))).2)), (5, .int (nI i))]) rfl dX10_count_182 ?_
                                refine z_iinc hC 5 (nI (i + 1)) rfl z_i1 (by decide) (lv' := [(5, .int (nI (i + 1))), (4, .int ((scI (crI V9 (h 1) t x9 (zbm (h 1))).1 (h 1) t m9 x9 (crI V9 (h 1) t x9 (zbm (h 1))).2 W9 i).2)), (0, .ref (q 0)), (1, .int x9), (2, .int (nI m9)), (3, .int ((crI V9 (h 1) t x9 (zbm (h 1))).2))]) rfl dX10_count_184 ?_
                                refine z_goto hC 98 dX10_count_187 (by decide) ?_
                                refine z_sub [2, 3, 4, 5, 1, 0] (lv' := [(0, .ref (q 0)), (1, .int x9), (2, .int (nI m9)), (3, .int ((crI V9 (h 1) t x9 (zbm (h 1))).2)), (4, .int ((scI (crI V9 (h 1) t x9 (zbm (h 1))).1 (h 1) t m9 x9 (crI V9 (h 1) t x9 (zbm (h 1))).2 W9 i).2)), (5, .int (nI (i + 1)))]) rfl ?_
                                exact z_cast (ih_98 (i + 1) (by omega) (by omega)) (by simp only [scI, if_pos c_112, if_neg k_118, if_pos c_139, if_neg c_157, hjc, if_pos c_172] <;> rfl) (by simp only [scI, if_pos c_112, if_neg k_118, if_pos c_139, if_neg c_157, hjc, if_pos c_172] <;> rfl) rfl
                              · refine z_iload hC 5 rfl dX10_count_175 ?_
                                refine z_goto hC 182 dX10_count_177 (by decide) ?_
                                refine z_istore hC (by decide) (lv' := [(4, .int (nI i)), (0, .ref (q 0)), (1, .int x9), (2, .int (nI m9)), (3, .int ((crI V9 (h 1) t x9 (zbm (h 1))).2)), (5, .int (nI i))]) rfl dX10_count_182 ?_
                                refine z_iinc hC 5 (nI (i + 1)) rfl z_i1 (by decide) (lv' := [(5, .int (nI (i + 1))), (4, .int (nI i)), (0, .ref (q 0)), (1, .int x9), (2, .int (nI m9)), (3, .int ((crI V9 (h 1) t x9 (zbm (h 1))).2))]) rfl dX10_count_184 ?_
                                refine z_goto hC 98 dX10_count_187 (by decide) ?_
                                refine z_sub [2, 3, 4, 5, 1, 0] (lv' := [(0, .ref (q 0)), (1, .int x9), (2, .int (nI m9)), (3, .int ((crI V9 (h 1) t x9 (zbm (h 1))).2)), (4, .int (nI i)), (5, .int (nI (i + 1)))]) rfl ?_
                                exact z_cast (ih_98 (i + 1) (by omega) (by omega)) (by simp only [scI, if_pos c_112, if_neg k_118, if_pos c_139, if_neg c_157, hjc, if_neg c_172] <;> rfl) (by simp only [scI, if_pos c_112, if_neg k_118, if_pos c_139, if_neg c_157, hjc, if_neg c_172] <;> rfl) rfl
                          · refine z_iload hC 5 rfl dX10_count_142 ?_
                            refine z_goto hC 151 dX10_count_144 (by decide) ?_
                            refine z_put hC 0 8 7 (ws' := zMo (zy E) q (va_up (va_up h 0 (upd (upd (upd (h 0) 2 (nI t)) 3 ((scI (crI V9 (h 1) t x9 (zbm (h 1))).1 (h 1) t m9 x9 (crI V9 (h 1) t x9 (zbm (h 1))).2 W9 i).1)) 3 (nI i))) 4 ((crI V9 (h 1) t x9 (zbm (h 1))).1))) tyX10 .int rfl rfl iX10_count_X10 tyX10_ok nmX10 (by decide) (List.mem_of_getElem? (i := 3) (by decide +kernel)) rfl rfl (by decide +kernel) rfl rfl (Nat.le_of_ble_eq_true rfl) rfl dX10_count_151 ?_
                            refine z_iload hC 4 rfl dX10_count_154 ?_
                            refine z_iconst hC ((-1)) (by decide +kernel) dX10_count_156 ?_
                            refine z_icmp_eq hC 175 dX10_count_157 (by decide) (fun c_157 => ?_) (fun c_157 => ?_)
                            · refine z_iload hC 5 rfl dX10_count_175 ?_
                              refine z_goto hC 182 dX10_count_177 (by decide) ?_
                              refine z_istore hC (by decide) (lv' := [(4, .int (nI i)), (0, .ref (q 0)), (1, .int x9), (2, .int (nI m9)), (3, .int ((crI V9 (h 1) t x9 (zbm (h 1))).2)), (5, .int (nI i))]) rfl dX10_count_182 ?_
                              refine z_iinc hC 5 (nI (i + 1)) rfl z_i1 (by decide) (lv' := [(5, .int (nI (i + 1))), (4, .int (nI i)), (0, .ref (q 0)), (1, .int x9), (2, .int (nI m9)), (3, .int ((crI V9 (h 1) t x9 (zbm (h 1))).2))]) rfl dX10_count_184 ?_
                              refine z_goto hC 98 dX10_count_187 (by decide) ?_
                              refine z_sub [2, 3, 4, 5, 1, 0] (lv' := [(0, .ref (q 0)), (1, .int x9), (2, .int (nI m9)), (3, .int ((crI V9 (h 1) t x9 (zbm (h 1))).2)), (4, .int (nI i)), (5, .int (nI (i + 1)))]) rfl ?_
                              exact z_cast (ih_98 (i + 1) (by omega) (by omega)) (by simp only [scI, if_pos c_112, if_neg k_118, if_neg c_139, if_pos c_157] <;> rfl) (by simp only [scI, if_pos c_112, if_neg k_118, if_neg c_139, if_pos c_157] <;> rfl) rfl
                            · obtain ⟨j, hj8, hj⟩ := scI_nat (crI V9 (h 1) t x9 (zbm (h 1))).1 (h 1) t m9 x9 (crI V9 (h 1) t x9 (zbm (h 1))).2 W9 i (by omega) c_157
                              have hjc : (scI (crI V9 (h 1) t x9 (zbm (h 1))).1 (h 1) t m9 x9 (crI V9 (h 1) t x9 (zbm (h 1))).2 W9 i).2.toNatClampNeg = j := by rw [hj]; exact nI_clamp (by omega)
                              refine z_aload_n hC 0 rfl dX10_count_160 ?_
                              refine z_aload_n hC 0 rfl dX10_count_161 ?_
                              refine z_get hC 0 8 6 (v := .int ((upd (upd (upd (h 0) 2 (nI t)) 3 ((scI (crI V9 (h 1) t x9 (zbm (h 1))).1 (h 1) t m9 x9 (crI V9 (h 1) t x9 (zbm (h 1))).2 W9 i).1)) 3 (nI i)) 2)) rfl rfl iX10_count_X10 (by decide) (List.mem_of_getElem? (i := 2) (by decide +kernel)) rfl rfl dX10_count_162 ?_
                              refine z_top (nI t) rfl ?_
                              refine z_iload hC 5 rfl dX10_count_165 ?_
                              refine z_iload hC 4 rfl dX10_count_167 ?_
                              refine z_top (nI j) hj ?_
                              refine z_callV hC (As := [.int (nI t), .int (nI i), .int (nI j)]) (st := []) (ws2 := zMo (zy E) q (va_up (va_up h 0 (upd (upd (upd (h 0) 2 (nI t)) 3 ((scI (crI V9 (h 1) t x9 (zbm (h 1))).1 (h 1) t m9 x9 (crI V9 (h 1) t x9 (zbm (h 1))).2 W9 i).1)) 3 (nI i))) 4 ((crI V9 (h 1) t x9 (zbm (h 1))).1))) (B := zMo (zy E) q (va_up (va_up h 0 (upd (upd (upd (h 0) 2 (nI t)) 3 ((scI (crI V9 (h 1) t x9 (zbm (h 1))).1 (h 1) t m9 x9 (crI V9 (h 1) t x9 (zbm (h 1))).2 W9 i).1)) 3 (nI i))) 4 ((crI V9 (h 1) t x9 (zbm (h 1))).1))) (B' := zMo (zy E) q (va_up (va_up h 0 (upd (upd (upd (h 0) 2 (nI t)) 3 ((scI (crI V9 (h 1) t x9 (zbm (h 1))).1 (h 1) t m9 x9 (crI V9 (h 1) t x9 (zbm (h 1))).2 W9 i).1)) 3 (nI i))) 4 ((crI V9 (h 1) t x9 (zbm (h 1))).1))) (r := some (.int (iwM ((va_up (va_up h 0 (upd (upd (upd (h 0) 2 (nI t)) 3 ((scI (crI V9 (h 1) t x9 (zbm (h 1))).1 (h 1) t m9 x9 (crI V9 (h 1) t x9 (zbm (h 1))).2 W9 i).1)) 3 (nI i))) 4 ((crI V9 (h 1) t x9 (zbm (h 1))).1)) 4) ((va_up (va_up h 0 (upd (upd (upd (h 0) 2 (nI t)) 3 ((scI (crI V9 (h 1) t x9 (zbm (h 1))).1 (h 1) t m9 x9 (crI V9 (h 1) t x9 (zbm (h 1))).2 W9 i).1)) 3 (nI i))) 4 ((crI V9 (h 1) t x9 (zbm (h 1))).1)) 1) t i j))) 3 (c_X10_isWorse q (va_up (va_up h 0 (upd (upd (upd (h 0) 2 (nI t)) 3 ((scI (crI V9 (h 1) t x9 (zbm (h 1))).1 (h 1) t m9 x9 (crI V9 (h 1) t x9 (zbm (h 1))).2 W9 i).1)) 3 (nI i))) 4 ((crI V9 (h 1) t x9 (zbm (h 1))).1)) t i j (by omega) (by omega) (by omega) hM) gX10_count_X10_isWorse (q0 := 0) (ci := 8) (by decide +kernel) rfl rfl rfl ⟨by decide, by decide⟩ [0, 1, 2, 3, 4, 5, 6] rfl (by decide) rfl (Nat.le_of_ble_eq_true rfl) rfl rfl dX10_count_169 ?_ hkR
                              refine z_top (iwM (crI V9 (h 1) t x9 (zbm (h 1))).1 (h 1) t i j) rfl ?_
                              refine z_if_eq hC 180 dX10_count_172 (by decide) (fun c_172 => ?_) (fun c_172 => ?_)
                              · refine z_iload hC 4 rfl dX10_count_180 ?_
                                refine z_istore hC (by decide) (lv' := [(4, .int ((scI (crI V9 (h 1) t x9 (zbm (h 1))).1 (h 1) t m9 x9 (crI V9 (h 1) t x9 (zbm (h 1))).2 W9 i).2)), (0, .ref (q 0)), (1, .int x9), (2, .int (nI m9)), (3, .int ((crI V9 (h 1) t x9 (zbm (h 1))).2)), (5, .int (nI i))]) rfl dX10_count_182 ?_
                                refine z_iinc hC 5 (nI (i + 1)) rfl z_i1 (by decide) (lv' := [(5, .int (nI (i + 1))), (4, .int ((scI (crI V9 (h 1) t x9 (zbm (h 1))).1 (h 1) t m9 x9 (crI V9 (h 1) t x9 (zbm (h 1))).2 W9 i).2)), (0, .ref (q 0)), (1, .int x9), (2, .int (nI m9)), (3, .int ((crI V9 (h 1) t x9 (zbm (h 1))).2))]) rfl dX10_count_184 ?_
                                refine z_goto hC 98 dX10_count_187 (by decide) ?_
                                refine z_sub [2, 3, 4, 5, 1, 0] (lv' := [(0, .ref (q 0)), (1, .int x9), (2, .int (nI m9)), (3, .int ((crI V9 (h 1) t x9 (zbm (h 1))).2)), (4, .int ((scI (crI V9 (h 1) t x9 (zbm (h 1))).1 (h 1) t m9 x9 (crI V9 (h 1) t x9 (zbm (h 1))).2 W9 i).2)), (5, .int (nI (i + 1)))]) rfl ?_
                                exact z_cast (ih_98 (i + 1) (by omega) (by omega)) (by simp only [scI, if_pos c_112, if_neg k_118, if_neg c_139, if_neg c_157, hjc, if_pos c_172] <;> rfl) (by simp only [scI, if_pos c_112, if_neg k_118, if_neg c_139, if_neg c_157, hjc, if_pos c_172] <;> rfl) rfl
                              · refine z_iload hC 5 rfl dX10_count_175 ?_
                                refine z_goto hC 182 dX10_count_177 (by decide) ?_
                                refine z_istore hC (by decide) (lv' := [(4, .int (nI i)), (0, .ref (q 0)), (1, .int x9), (2, .int (nI m9)), (3, .int ((crI V9 (h 1) t x9 (zbm (h 1))).2)), (5, .int (nI i))]) rfl dX10_count_182 ?_
                                refine z_iinc hC 5 (nI (i + 1)) rfl z_i1 (by decide) (lv' := [(5, .int (nI (i + 1))), (4, .int (nI i)), (0, .ref (q 0)), (1, .int x9), (2, .int (nI m9)), (3, .int ((crI V9 (h 1) t x9 (zbm (h 1))).2))]) rfl dX10_count_184 ?_
                                refine z_goto hC 98 dX10_count_187 (by decide) ?_
                                refine z_sub [2, 3, 4, 5, 1, 0] (lv' := [(0, .ref (q 0)), (1, .int x9), (2, .int (nI m9)), (3, .int ((crI V9 (h 1) t x9 (zbm (h 1))).2)), (4, .int (nI i)), (5, .int (nI (i + 1)))]) rfl ?_
                                exact z_cast (ih_98 (i + 1) (by omega) (by omega)) (by simp only [scI, if_pos c_112, if_neg k_118, if_neg c_139, if_neg c_157, hjc, if_neg c_172] <;> rfl) (by simp only [scI, if_pos c_112, if_neg k_118, if_neg c_139, if_neg c_157, hjc, if_neg c_172] <;> rfl) rfl
                refine z_sub [3, 4, 5, 2, 1, 0] (lv' := [(0, .ref (q 0)), (1, .int x9), (2, .int (nI m9)), (3, .int ((crI V9 (h 1) t x9 (zbm (h 1))).2)), (4, .int (-1)), (5, .int (nI 0))]) rfl ?_
                exact z_cast (lp_98 (8 + 1) 0 (by omega) (by omega)) rfl rfl rfl
        refine z_sub [0, 1, 2] (lv' := [(0, .ref (q 0)), (1, .int (cxM (h 1) 8)), (2, .int (nI (cmM (h 1) 8)))]) rfl ?_
        exact z_cast (lp_70 (8 + 1) 0 (cmM (h 1) 8) (cxM (h 1) 8) (-1) (h 4) (by omega) (by omega) rfl (by have := cmM_le (h 1) 8; omega)) rfl rfl rfl
      · have k_9 : ¬ (8 ≤ i) := fun q => c_9 ((nI_leI (by omega) (by omega)).mpr q)
        refine z_iload_n hC 1 rfl dX10_count_12 ?_
        refine z_aload_n hC 0 rfl dX10_count_13 ?_
        refine z_get hC 0 8 0 (v := .ref (q 1)) rfl rfl iX10_count_X10 (by decide) (List.mem_of_getElem? (i := 1) (by decide +kernel)) rfl rfl dX10_count_14 ?_
        refine z_bipush hC (nI 12) (by decide +kernel) dX10_count_17 ?_
        refine z_iload_n hC 3 rfl dX10_count_19 ?_
        refine z_iadd hC dX10_count_20 ?_
        refine z_top (nI (12 + i)) (nI_add _ _) ?_
        refine z_iald hC 1 (12 + i) (f := h 1) rfl rfl rfl (by omega) (by decide) dX10_count_21 ?_
        refine z_if_le hC 31 dX10_count_22 (by decide) (fun c_22 => ?_) (fun c_22 => ?_)
        · refine z_iconst hC (nI 0) (by decide +kernel) dX10_count_31 ?_
          refine z_ior hC dX10_count_32 ?_
          refine z_top (cxM (h 1) (i + 1)) (by rw [cxM, if_pos c_22]) ?_
          refine z_istore_n hC (by decide) (lv' := [(1, .int (cxM (h 1) (i + 1))), (0, .ref (q 0)), (2, .int (nI (cmM (h 1) i))), (3, .int (nI i))]) rfl dX10_count_33 ?_
          refine z_iload_n hC 2 rfl dX10_count_34 ?_
          refine z_aload_n hC 1 rfl dX10_count_35 ?_
          refine z_get hC 0 8 0 (v := .ref (q 1)) rfl rfl iX10_count_X10 (by decide) (List.mem_of_getElem? (i := 1) (by decide +kernel)) rfl rfl dX10_count_36 ?_
          refine z_bipush hC (nI 12) (by decide +kernel) dX10_count_39 ?_
          refine z_iload_n hC 3 rfl dX10_count_41 ?_
          refine z_iadd hC dX10_count_42 ?_
          refine z_top (nI (12 + i)) (nI_add _ _) ?_
          refine z_iald hC 1 (12 + i) (f := h 1) rfl rfl rfl (by omega) (by decide) dX10_count_43 ?_
          refine z_if_le hC 51 dX10_count_44 (by decide) (fun c_44 => ?_) (fun c_44 => ?_)
          · refine z_iconst hC (nI 0) (by decide +kernel) dX10_count_51 ?_
            refine z_iadd hC dX10_count_52 ?_
            refine z_top (nI (cmM (h 1) (i + 1))) (by rw [← cmM_e, if_pos c_44]) ?_
            refine z_istore_n hC (by decide) (lv' := [(2, .int (nI (cmM (h 1) (i + 1)))), (1, .int (cxM (h 1) (i + 1))), (0, .ref (q 0)), (3, .int (nI i))]) rfl dX10_count_53 ?_
            refine z_iinc hC 3 (nI (i + 1)) rfl z_i1 (by decide) (lv' := [(3, .int (nI (i + 1))), (2, .int (nI (cmM (h 1) (i + 1)))), (1, .int (cxM (h 1) (i + 1))), (0, .ref (q 0))]) rfl dX10_count_54 ?_
            refine z_goto hC 6 dX10_count_57 (by decide) ?_
            refine z_sub [3, 2, 1, 0] (lv' := [(0, .ref (q 0)), (1, .int (cxM (h 1) (i + 1))), (2, .int (nI (cmM (h 1) (i + 1)))), (3, .int (nI (i + 1)))]) rfl ?_
            exact z_cast (ih_6 (i + 1) (by omega) (by omega)) rfl rfl rfl
          · refine z_iconst hC (nI 1) (by decide +kernel) dX10_count_47 ?_
            refine z_goto hC 52 dX10_count_48 (by decide) ?_
            refine z_iadd hC dX10_count_52 ?_
            refine z_top (nI (cmM (h 1) (i + 1))) (by rw [← cmM_e, if_neg c_44]) ?_
            refine z_istore_n hC (by decide) (lv' := [(2, .int (nI (cmM (h 1) (i + 1)))), (1, .int (cxM (h 1) (i + 1))), (0, .ref (q 0)), (3, .int (nI i))]) rfl dX10_count_53 ?_
            refine z_iinc hC 3 (nI (i + 1)) rfl z_i1 (by decide) (lv' := [(3, .int (nI (i + 1))), (2, .int (nI (cmM (h 1) (i + 1)))), (1, .int (cxM (h 1) (i + 1))), (0, .ref (q 0))]) rfl dX10_count_54 ?_
            refine z_goto hC 6 dX10_count_57 (by decide) ?_
            refine z_sub [3, 2, 1, 0] (lv' := [(0, .ref (q 0)), (1, .int (cxM (h 1) (i + 1))), (2, .int (nI (cmM (h 1) (i + 1)))), (3, .int (nI (i + 1)))]) rfl ?_
            exact z_cast (ih_6 (i + 1) (by omega) (by omega)) rfl rfl rfl
        · refine z_iconst hC (nI 1) (by decide +kernel) dX10_count_25 ?_
          refine z_iload_n hC 3 rfl dX10_count_26 ?_
          refine z_ishl hC dX10_count_27 ?_
          refine z_goto hC 32 dX10_count_28 (by decide) ?_
          refine z_ior hC dX10_count_32 ?_
          refine z_top (cxM (h 1) (i + 1)) (by rw [cxM, if_neg c_22]) ?_
          refine z_istore_n hC (by decide) (lv' := [(1, .int (cxM (h 1) (i + 1))), (0, .ref (q 0)), (2, .int (nI (cmM (h 1) i))), (3, .int (nI i))]) rfl dX10_count_33 ?_
          refine z_iload_n hC 2 rfl dX10_count_34 ?_
          refine z_aload_n hC 1 rfl dX10_count_35 ?_
          refine z_get hC 0 8 0 (v := .ref (q 1)) rfl rfl iX10_count_X10 (by decide) (List.mem_of_getElem? (i := 1) (by decide +kernel)) rfl rfl dX10_count_36 ?_
          refine z_bipush hC (nI 12) (by decide +kernel) dX10_count_39 ?_
          refine z_iload_n hC 3 rfl dX10_count_41 ?_
          refine z_iadd hC dX10_count_42 ?_
          refine z_top (nI (12 + i)) (nI_add _ _) ?_
          refine z_iald hC 1 (12 + i) (f := h 1) rfl rfl rfl (by omega) (by decide) dX10_count_43 ?_
          refine z_if_le hC 51 dX10_count_44 (by decide) (fun c_44 => ?_) (fun c_44 => ?_)
          · refine z_iconst hC (nI 0) (by decide +kernel) dX10_count_51 ?_
            refine z_iadd hC dX10_count_52 ?_
            refine z_top (nI (cmM (h 1) (i + 1))) (by rw [← cmM_e, if_pos c_44]) ?_
            refine z_istore_n hC (by decide) (lv' := [(2, .int (nI (cmM (h 1) (i + 1)))), (1, .int (cxM (h 1) (i + 1))), (0, .ref (q 0)), (3, .int (nI i))]) rfl dX10_count_53 ?_
            refine z_iinc hC 3 (nI (i + 1)) rfl z_i1 (by decide) (lv' := [(3, .int (nI (i + 1))), (2, .int (nI (cmM (h 1) (i + 1)))), (1, .int (cxM (h 1) (i + 1))), (0, .ref (q 0))]) rfl dX10_count_54 ?_
            refine z_goto hC 6 dX10_count_57 (by decide) ?_
            refine z_sub [3, 2, 1, 0] (lv' := [(0, .ref (q 0)), (1, .int (cxM (h 1) (i + 1))), (2, .int (nI (cmM (h 1) (i + 1)))), (3, .int (nI (i + 1)))]) rfl ?_
            exact z_cast (ih_6 (i + 1) (by omega) (by omega)) rfl rfl rfl
          · refine z_iconst hC (nI 1) (by decide +kernel) dX10_count_47 ?_
            refine z_goto hC 52 dX10_count_48 (by decide) ?_
            refine z_iadd hC dX10_count_52 ?_
            refine z_top (nI (cmM (h 1) (i + 1))) (by rw [← cmM_e, if_neg c_44]) ?_
            refine z_istore_n hC (by decide) (lv' := [(2, .int (nI (cmM (h 1) (i + 1)))), (1, .int (cxM (h 1) (i + 1))), (0, .ref (q 0)), (3, .int (nI i))]) rfl dX10_count_53 ?_
            refine z_iinc hC 3 (nI (i + 1)) rfl z_i1 (by decide) (lv' := [(3, .int (nI (i + 1))), (2, .int (nI (cmM (h 1) (i + 1)))), (1, .int (cxM (h 1) (i + 1))), (0, .ref (q 0))]) rfl dX10_count_54 ?_
            refine z_goto hC 6 dX10_count_57 (by decide) ?_
            refine z_sub [3, 2, 1, 0] (lv' := [(0, .ref (q 0)), (1, .int (cxM (h 1) (i + 1))), (2, .int (nI (cmM (h 1) (i + 1)))), (3, .int (nI (i + 1)))]) rfl ?_
            exact z_cast (ih_6 (i + 1) (by omega) (by omega)) rfl rfl rfl
  refine z_sub [3, 2, 1, 0] (lv' := [(0, .ref (q 0)), (1, .int (nI 0)), (2, .int (nI 0)), (3, .int (nI 0))]) rfl ?_
  exact z_cast (lp_6 (8 + 1) 0 (by omega) (by omega)) rfl rfl rfl

theorem iX10_rounds_X10 : ∀ w ∈ u_ws RX10 TX10 15, w ∈ wsX10_rounds := by decide +kernel
set_option maxHeartbeats 4000000 in
set_option maxRecDepth 100000 in
/-- rounds -/
theorem c_X10_rounds {l : Launch} {y : zY} {D : va_G} (q : Nat → Nat) (h : Nat → Nat → Int32) (hM : okM (h 1)) (hB : okBm (h 1)) (hCh : okCh (h 1)) : zM l y D yX10_rounds wsX10_rounds 3 73 [.ref (q 0)] (zMo y q h) (zMo y q (ctG9 (h0t h))) (some (.int (nI (ctC h).1))) := by
  refine z_start (own := RX10) (cc := cX10_rounds) (maxL := 1) (ret := (some .int)) rfl (by decide +kernel) rfl (Nat.le_of_ble_eq_true rfl) (zMo_fst _ _ _ _) ?_
  intro E hEl hEy hED hC hf
  subst hEl hEy hED
  have hkR : 0 ≤ E.2.2.2.2.2.1.cells ∧ 0 ≤ E.2.2.2.2.2.1.slots := ⟨Nat.zero_le _, Nat.zero_le _⟩
  refine z_cast (lv := [(0, .ref (q 0))]) (ws := (zMo (zy E) q h)) (st := []) ?_ rfl rfl rfl
  refine z_aload_n hC 0 rfl dX10_rounds_0 ?_
  refine z_iconst hC (nI 0) (by decide +kernel) dX10_rounds_1 ?_
  refine z_put hC 0 8 4 (ws' := zMo (zy E) q (va_up h 0 (upd (h 0) 1 (nI 0)))) tyX10 .int rfl rfl iX10_rounds_X10 tyX10_ok nmX10 (by decide) (List.mem_of_getElem? (i := 1) (by decide +kernel)) rfl rfl (by decide +kernel) rfl rfl (Nat.le_of_ble_eq_true rfl) rfl dX10_rounds_2 ?_
  refine z_aload_n hC 0 rfl dX10_rounds_5 ?_
  refine z_callV hC (As := []) (st := []) (ws2 := zMo (zy E) q (ctG9 (va_up h 0 (upd (h 0) 1 (nI 0))))) (B := zMo (zy E) q (va_up h 0 (upd (h 0) 1 (nI 0)))) (B' := zMo (zy E) q (ctG9 (va_up h 0 (upd (h 0) 1 (nI 0))))) (r := none) 0 (c_X10_count q (va_up h 0 (upd (h 0) 1 (nI 0))) hM hB hCh) gX10_rounds_X10_count (q0 := 0) (ci := 8) (by decide +kernel) rfl rfl rfl ⟨by decide, by decide⟩ [0, 1, 2, 3, 4, 5, 6] rfl (by decide) rfl (Nat.le_of_ble_eq_true rfl) rfl rfl dX10_rounds_6 ?_ hkR
  refine z_aload_n hC 0 rfl dX10_rounds_9 ?_
  refine z_get hC 0 8 6 (v := .int (((ctG9 (va_up h 0 (upd (h 0) 1 (nI 0)))) 0) 2)) rfl rfl iX10_rounds_X10 (by decide) (List.mem_of_getElem? (i := 2) (by decide +kernel)) rfl rfl dX10_rounds_10 ?_
  refine z_top (nI (ctC h).1) rfl ?_
  exact z_iret hC hf rfl rfl rfl dX10_rounds_13

theorem iX10_winner_X10 : ∀ w ∈ u_ws RX10 TX10 15, w ∈ wsX10_winner := by decide +kernel
set_option maxHeartbeats 4000000 in
set_option maxRecDepth 100000 in
/-- winner -/
theorem c_X10_winner {l : Launch} {y : zY} {D : va_G} (q : Nat → Nat) (h : Nat → Nat → Int32) (hM : okM (h 1)) (hB : okBm (h 1)) (hCh : okCh (h 1)) : zM l y D yX10_winner wsX10_winner 3 73 [.ref (q 0)] (zMo y q h) (zMo y q (ctG9 (h0t h))) (some (.int ((ctC h).2.1))) := by
  refine z_start (own := RX10) (cc := cX10_winner) (maxL := 1) (ret := (some .int)) rfl (by decide +kernel) rfl (Nat.le_of_ble_eq_true rfl) (zMo_fst _ _ _ _) ?_
  intro E hEl hEy hED hC hf
  subst hEl hEy hED
  have hkR : 0 ≤ E.2.2.2.2.2.1.cells ∧ 0 ≤ E.2.2.2.2.2.1.slots := ⟨Nat.zero_le _, Nat.zero_le _⟩
  refine z_cast (lv := [(0, .ref (q 0))]) (ws := (zMo (zy E) q h)) (st := []) ?_ rfl rfl rfl
  refine z_aload_n hC 0 rfl dX10_winner_0 ?_
  refine z_iconst hC (nI 0) (by decide +kernel) dX10_winner_1 ?_
  refine z_put hC 0 8 4 (ws' := zMo (zy E) q (va_up h 0 (upd (h 0) 1 (nI 0)))) tyX10 .int rfl rfl iX10_winner_X10 tyX10_ok nmX10 (by decide) (List.mem_of_getElem? (i := 1) (by decide +kernel)) rfl rfl (by decide +kernel) rfl rfl (Nat.le_of_ble_eq_true rfl) rfl dX10_winner_2 ?_
  refine z_aload_n hC 0 rfl dX10_winner_5 ?_
  refine z_callV hC (As := []) (st := []) (ws2 := zMo (zy E) q (ctG9 (va_up h 0 (upd (h 0) 1 (nI 0))))) (B := zMo (zy E) q (va_up h 0 (upd (h 0) 1 (nI 0)))) (B' := zMo (zy E) q (ctG9 (va_up h 0 (upd (h 0) 1 (nI 0))))) (r := none) 0 (c_X10_count q (va_up h 0 (upd (h 0) 1 (nI 0))) hM hB hCh) gX10_winner_X10_count (q0 := 0) (ci := 8) (by decide +kernel) rfl rfl rfl ⟨by decide, by decide⟩ [0, 1, 2, 3, 4, 5, 6] rfl (by decide) rfl (Nat.le_of_ble_eq_true rfl) rfl rfl dX10_winner_6 ?_ hkR
  refine z_aload_n hC 0 rfl dX10_winner_9 ?_
  refine z_get hC 0 8 7 (v := .int (((ctG9 (va_up h 0 (upd (h 0) 1 (nI 0)))) 0) 3)) rfl rfl iX10_winner_X10 (by decide) (List.mem_of_getElem? (i := 2) (by decide +kernel)) rfl rfl dX10_winner_10 ?_
  refine z_top ((ctC h).2.1) rfl ?_
  exact z_iret hC hf rfl rfl rfl dX10_winner_13

theorem iX10_votes_X10 : ∀ w ∈ u_ws RX10 TX10 15, w ∈ wsX10_votes := by decide +kernel
set_option maxHeartbeats 4000000 in
set_option maxRecDepth 100000 in
/-- votes -/
theorem c_X10_votes {l : Launch} {y : zY} {D : va_G} (q : Nat → Nat) (h : Nat → Nat → Int32) (r s : Nat) (hr : r < 2 ^ 32) (hs : s < 2 ^ 32) (hM : okM (h 1)) (hB : okBm (h 1)) (hCh : okCh (h 1)) : zM l y D yX10_votes wsX10_votes 3 73 [.ref (q 0), .int (nI r), .int (nI s)] (zMo y q h) (zMo y q (mxG h (vtT (nI r) (nI s)) (ctG9 (h0t h)))) (some (.int (if vtT (nI r) (nI s) = 0 then (if r < (ctC h).1 then (ctC h).2.2 (8 * r + s) else (-1)) else nI 0))) := by
  refine z_start (own := RX10) (cc := cX10_votes) (maxL := 3) (ret := (some .int)) rfl (by decide +kernel) rfl (Nat.le_of_ble_eq_true rfl) (zMo_fst _ _ _ _) ?_
  intro E hEl hEy hED hC hf
  subst hEl hEy hED
  have hkR : 0 ≤ E.2.2.2.2.2.1.cells ∧ 0 ≤ E.2.2.2.2.2.1.slots := ⟨Nat.zero_le _, Nat.zero_le _⟩
  refine z_cast (lv := [(0, .ref (q 0)), (1, .int (nI r)), (2, .int (nI s))]) (ws := (zMo (zy E) q h)) (st := []) ?_ rfl rfl rfl
  refine z_aload_n hC 0 rfl dX10_votes_0 ?_
  refine z_iload_n hC 1 rfl dX10_votes_1 ?_
  refine z_if_lt hC 9 dX10_votes_2 (by decide) (fun c_2 => ?_) (fun c_2 => ?_)
  · refine z_iconst hC (nI 0) (by decide +kernel) dX10_votes_9 ?_
    refine z_iload_n hC 2 rfl dX10_votes_10 ?_
    refine z_callS hC (As := [.int (nI s)]) (st := [.int (nI 0), .ref (q 0)]) (ws2 := zMo (zy E) q h) (B := []) (B' := []) (r := some (.int (isS (nI s)))) 1 (c_X10_isSite (nI s)) gX10_votes_X10_isSite (by decide +kernel) rfl ⟨by decide, by decide⟩ [] rfl (by decide) rfl (Nat.le_of_ble_eq_true rfl) rfl rfl dX10_votes_11 ?_ hkR
    refine z_iconst hC (nI 1) (by decide +kernel) dX10_votes_14 ?_
    by_cases s_15_2 : isS (nI s) = 0
    · refine z_callV hC (As := [.int (nI 0), .int (isS (nI s)), .int (nI 1)]) (st := []) (ws2 := zMo (zy E) q (flG h (nI 0) (isS (nI s)) (nI 1))) (B := zMo (zy E) q h) (B' := zMo (zy E) q (flG h (nI 0) (isS (nI s)) (nI 1))) (r := some (.int (flR (nI 0) (isS (nI s)) (nI 1)))) 3 (c_X10_fails q h (nI 0) (isS (nI s)) (nI 1)) gX10_votes_X10_fails (q0 := 0) (ci := 8) (by decide +kernel) rfl rfl rfl ⟨by decide, by decide⟩ [0, 1, 2, 3, 4, 5, 6] rfl (by decide) rfl (Nat.le_of_ble_eq_true rfl) rfl rfl dX10_votes_15 ?_ hkR
      have pf_1 : flV (nI 0) (isS (nI s)) (nI 1) = nI 1 := by rw [flV, if_pos (show nI 0 = 0 by decide +kernel)]
      refine z_top (nI 1) (by rw [flR, pf_1]; first | done | decide +kernel) ?_
      refine z_cast (lv := [(0, .ref (q 0)), (1, .int (nI r)), (2, .int (nI s))]) (ws := (zMo (zy E) q (va_up h 0 (upd (h 0) 1 (nI 1))))) (st := [.int (nI 1)]) ?_ rfl (by rw [flG, pf_1]) rfl
      refine z_if_eq hC 23 dX10_votes_18 (by decide) (fun c_18 => ?_) (fun c_18 => ?_)
      · exact absurd c_18 (by decide +kernel)
      · refine z_iconst hC (nI 0) (by decide +kernel) dX10_votes_21 ?_
        have pT : vtT (nI r) (nI s) = 1 := by simp only [vtT, if_pos c_2, if_pos s_15_2]
        exact z_iret hC hf rfl (by rw [pT]; rfl) (by unfold mxG; rw [pT]; rfl) dX10_votes_22
    · have hs8 := isS_lt hs s_15_2
      refine z_callV hC (As := [.int (nI 0), .int (isS (nI s)), .int (nI 1)]) (st := []) (ws2 := zMo (zy E) q (flG h (nI 0) (isS (nI s)) (nI 1))) (B := zMo (zy E) q h) (B' := zMo (zy E) q (flG h (nI 0) (isS (nI s)) (nI 1))) (r := some (.int (flR (nI 0) (isS (nI s)) (nI 1)))) 3 (c_X10_fails q h (nI 0) (isS (nI s)) (nI 1)) gX10_votes_X10_fails (q0 := 0) (ci := 8) (by decide +kernel) rfl rfl rfl ⟨by decide, by decide⟩ [0, 1, 2, 3, 4, 5, 6] rfl (by decide) rfl (Nat.le_of_ble_eq_true rfl) rfl rfl dX10_votes_15 ?_ hkR
      have pf_2 : flV (nI 0) (isS (nI s)) (nI 1) = nI 1 := by rw [flV, if_pos (show nI 0 = 0 by decide +kernel)]
      refine z_top (nI 1) (by rw [flR, pf_2]; first | done | decide +kernel) ?_
      refine z_cast (lv := [(0, .ref (q 0)), (1, .int (nI r)), (2, .int (nI s))]) (ws := (zMo (zy E) q (va_up h 0 (upd (h 0) 1 (nI 1))))) (st := [.int (nI 1)]) ?_ rfl (by rw [flG, pf_2]) rfl
      refine z_if_eq hC 23 dX10_votes_18 (by decide) (fun c_18 => ?_) (fun c_18 => ?_)
      · exact absurd c_18 (by decide +kernel)
      · refine z_iconst hC (nI 0) (by decide +kernel) dX10_votes_21 ?_
        have pT : vtT (nI r) (nI s) = 1 := by simp only [vtT, if_pos c_2, if_neg s_15_2]
        exact z_iret hC hf rfl (by rw [pT]; rfl) (by unfold mxG; rw [pT]; rfl) dX10_votes_22
  · have hr31 := nI_n31 hr c_2
    have hR8 := ctC_le h
    refine z_iconst hC (nI 1) (by decide +kernel) dX10_votes_5 ?_
    refine z_goto hC 10 dX10_votes_6 (by decide) ?_
    refine z_iload_n hC 2 rfl dX10_votes_10 ?_
    refine z_callS hC (As := [.int (nI s)]) (st := [.int (nI 1), .ref (q 0)]) (ws2 := zMo (zy E) q h) (B := []) (B' := []) (r := some (.int (isS (nI s)))) 1 (c_X10_isSite (nI s)) gX10_votes_X10_isSite (by decide +kernel) rfl ⟨by decide, by decide⟩ [] rfl (by decide) rfl (Nat.le_of_ble_eq_true rfl) rfl rfl dX10_votes_11 ?_ hkR
    refine z_iconst hC (nI 1) (by decide +kernel) dX10_votes_14 ?_
    by_cases s_15_3 : isS (nI s) = 0
    · refine z_callV hC (As := [.int (nI 1), .int (isS (nI s)), .int (nI 1)]) (st := []) (ws2 := zMo (zy E) q (flG h (nI 1) (isS (nI s)) (nI 1))) (B := zMo (zy E) q h) (B' := zMo (zy E) q (flG h (nI 1) (isS (nI s)) (nI 1))) (r := some (.int (flR (nI 1) (isS (nI s)) (nI 1)))) 3 (c_X10_fails q h (nI 1) (isS (nI s)) (nI 1)) gX10_votes_X10_fails (q0 := 0) (ci := 8) (by decide +kernel) rfl rfl rfl ⟨by decide, by decide⟩ [0, 1, 2, 3, 4, 5, 6] rfl (by decide) rfl (Nat.le_of_ble_eq_true rfl) rfl rfl dX10_votes_15 ?_ hkR
      have pf_3 : flV (nI 1) (isS (nI s)) (nI 1) = nI 2 := by rw [flV, if_neg (show ¬ nI 1 = 0 by decide +kernel), if_pos s_15_3]
      refine z_top (nI 1) (by rw [flR, pf_3]; first | done | decide +kernel) ?_
      refine z_cast (lv := [(0, .ref (q 0)), (1, .int (nI r)), (2, .int (nI s))]) (ws := (zMo (zy E) q (va_up h 0 (upd (h 0) 1 (nI 2))))) (st := [.int (nI 1)]) ?_ rfl (by rw [flG, pf_3]) rfl
      refine z_if_eq hC 23 dX10_votes_18 (by decide) (fun c_18 => ?_) (fun c_18 => ?_)
      · exact absurd c_18 (by decide +kernel)
      · refine z_iconst hC (nI 0) (by decide +kernel) dX10_votes_21 ?_
        have pT : vtT (nI r) (nI s) = 2 := by simp only [vtT, if_neg c_2, if_pos s_15_3]
        exact z_iret hC hf rfl (by rw [pT]; rfl) (by unfold mxG; rw [pT]; rfl) dX10_votes_22
    · have hs8 := isS_lt hs s_15_3
      refine z_callV hC (As := [.int (nI 1), .int (isS (nI s)), .int (nI 1)]) (st := []) (ws2 := zMo (zy E) q (flG h (nI 1) (isS (nI s)) (nI 1))) (B := zMo (zy E) q h) (B' := zMo (zy E) q (flG h (nI 1) (isS (nI s)) (nI 1))) (r := some (.int (flR (nI 1) (isS (nI s)) (nI 1)))) 3 (c_X10_fails q h (nI 1) (isS (nI s)) (nI 1)) gX10_votes_X10_fails (q0 := 0) (ci := 8) (by decide +kernel) rfl rfl rfl ⟨by decide, by decide⟩ [0, 1, 2, 3, 4, 5, 6] rfl (by decide) rfl (Nat.le_of_ble_eq_true rfl) rfl rfl dX10_votes_15 ?_ hkR
      have pf_4 : flV (nI 1) (isS (nI s)) (nI 1) = nI 0 := by rw [flV, if_neg (show ¬ nI 1 = 0 by decide +kernel), if_neg s_15_3, if_neg (show ¬ nI 1 = 0 by decide +kernel)]
      refine z_top (nI 0) (by rw [flR, pf_4]; first | done | decide +kernel) ?_
      refine z_cast (lv := [(0, .ref (q 0)), (1, .int (nI r)), (2, .int (nI s))]) (ws := (zMo (zy E) q (va_up h 0 (upd (h 0) 1 (nI 0))))) (st := [.int (nI 0)]) ?_ rfl (by rw [flG, pf_4]) rfl
      refine z_if_eq hC 23 dX10_votes_18 (by decide) (fun c_18 => ?_) (fun c_18 => ?_)
      · refine z_aload_n hC 0 rfl dX10_votes_23 ?_
        refine z_callV hC (As := []) (st := []) (ws2 := zMo (zy E) q (ctG9 (va_up h 0 (upd (h 0) 1 (nI 0))))) (B := zMo (zy E) q (va_up h 0 (upd (h 0) 1 (nI 0)))) (B' := zMo (zy E) q (ctG9 (va_up h 0 (upd (h 0) 1 (nI 0))))) (r := none) 0 (c_X10_count q (va_up h 0 (upd (h 0) 1 (nI 0))) hM hB hCh) gX10_votes_X10_count (q0 := 0) (ci := 8) (by decide +kernel) rfl rfl rfl ⟨by decide, by decide⟩ [0, 1, 2, 3, 4, 5, 6] rfl (by decide) rfl (Nat.le_of_ble_eq_true rfl) rfl rfl dX10_votes_24 ?_ hkR
        refine z_iload_n hC 1 rfl dX10_votes_27 ?_
        refine z_aload_n hC 0 rfl dX10_votes_28 ?_
        refine z_get hC 0 8 6 (v := .int (((ctG9 (va_up h 0 (upd (h 0) 1 (nI 0)))) 0) 2)) rfl rfl iX10_votes_X10 (by decide) (List.mem_of_getElem? (i := 1) (by decide +kernel)) rfl rfl dX10_votes_29 ?_
        refine z_top (nI (ctC h).1) rfl ?_
        refine z_icmp_ge hC 49 dX10_votes_32 (by decide) (fun c_32 => ?_) (fun c_32 => ?_)
        · have k_32 : ((ctC h).1) ≤ r := (nI_leI (by omega) (by omega)).mp c_32
          refine z_iconst hC ((-1)) (by decide +kernel) dX10_votes_49 ?_
          have pT : vtT (nI r) (nI s) = 0 := by simp only [vtT, if_neg c_2, if_neg s_15_3]
          exact z_iret hC hf rfl (by rw [pT, if_pos rfl, if_neg (show ¬ r < (ctC h).1 by omega)]) (by unfold mxG; rw [pT]; rfl) dX10_votes_50
        · have k_32 : ¬ (((ctC h).1) ≤ r) := fun q => c_32 ((nI_leI (by omega) (by omega)).mpr q)
          refine z_aload_n hC 0 rfl dX10_votes_35 ?_
          refine z_get hC 0 8 5 (v := .ref (q 4)) rfl rfl iX10_votes_X10 (by decide) (List.mem_of_getElem? (i := 2) (by decide +kernel)) rfl rfl dX10_votes_36 ?_
          refine z_bipush hC (nI 8) (by decide +kernel) dX10_votes_39 ?_
          refine z_iload_n hC 1 rfl dX10_votes_41 ?_
          refine z_imul hC dX10_votes_42 ?_
          refine z_top (nI (8 * r)) (pk_mul _ _) ?_
          refine z_iload_n hC 2 rfl dX10_votes_43 ?_
          refine z_iadd hC dX10_votes_44 ?_
          refine z_top (nI ((8 * r) + s)) (nI_add _ _) ?_
          refine z_iald hC 4 ((8 * r) + s) (f := (ctG9 (va_up h 0 (upd (h 0) 1 (nI 0)))) 4) rfl rfl rfl (by omega) (by decide) dX10_votes_45 ?_
          refine z_top ((ctC h).2.2 (8 * r + s)) rfl ?_
          refine z_goto hC 50 dX10_votes_46 (by decide) ?_
          have pT : vtT (nI r) (nI s) = 0 := by simp only [vtT, if_neg c_2, if_neg s_15_3]
          exact z_iret hC hf rfl (by rw [pT, if_pos rfl, if_pos (show r < (ctC h).1 by omega)]) (by unfold mxG; rw [pT]; rfl) dX10_votes_50
      · exact absurd c_18 (by decide +kernel)
