/-! an hour of the model -/
theorem zMo_fst (y : zY) (q : Nat → Nat) (h h' : Nat → Nat → Int32) : (zMo y q h').map Prod.fst = (zMo y q h).map Prod.fst := rfl
def psV (f : Nat → Int32) (c : Nat) : Int32 := if f (12 + c / 6) ≤ nI (c % 6) then nI 0 else if rt (f (44 + c)) * fcM f (c / 6) (c % 6) ≤ f (92 + c) then rt (f (44 + c)) * fcM f (c / 6) (c % 6) else f (92 + c)
def psF (f : Nat → Int32) : Nat → Nat → Int32
  | 0 => f
  | c + 1 => upd (upd (psF f c) (92 + c) (psF f c (92 + c) - psV (psF f c) c)) (36 + c / 6) ((upd (psF f c) (92 + c) (psF f c (92 + c) - psV (psF f c) c)) (36 + c / 6) + psV (psF f c) c)
def psA (f : Nat → Int32) : Nat → Int32
  | 0 => nI 0
  | c + 1 => psA f c + psV (psF f c) c
theorem psF_lo (f : Nat → Int32) : ∀ c j, j < 36 → psF f c j = f j
  | 0, _, _ => rfl
  | c + 1, j, h => by
    simp only [psF]
    rw [pk_un (by omega), pk_un (by omega)]
    exact psF_lo f c j h
theorem okM_of {f f' : Nat → Int32} (h : ∀ j, 12 ≤ j → j < 20 → f' j = f j) (hM : okM f) : okM f' := by
  intro s hs
  have e1 : f' (12 + s) = f (12 + s) := h _ (by omega) (by omega)
  have e2 : zhm f' s = zhm f s := by unfold zhm; rw [e1]
  rw [e1, e2]; exact hM s hs
def pdF (f : Nat → Int32) : Nat → Nat → Int32
  | 0 => f
  | s + 1 => dmF (pdF f s) s
theorem okM_pd {f : Nat → Int32} (hM : okM f) : ∀ s, s ≤ 8 → okM (pdF f s)
  | 0, _ => hM
  | s + 1, h => okM_dm (okM_pd hM s (by omega)) (by omega)
theorem dmF_lo (f : Nat → Int32) (s j : Nat) (hj : j < 12) : dmF f s j = f j := (pk_un (by omega)).trans (dmI_lo f s _ j (by omega))
theorem pdF_lo (f : Nat → Int32) : ∀ s j, j < 12 → pdF f s j = f j
  | 0, _, _ => rfl
  | s + 1, j, h => (dmF_lo _ s j h).trans (pdF_lo f s j h)
def ptF (f : Nat → Int32) : Nat → Nat → Int32
  | 0 => f
  | t + 1 => upd (ptF f t) (145 + t) (nI 60)
theorem ptF_lo (f : Nat → Int32) : ∀ t j, j < 145 → ptF f t j = f j
  | 0, _, _ => rfl
  | t + 1, j, h => (pk_un (by omega)).trans (ptF_lo f t j h)
def ztm (f : Nat → Int32) : Nat := (f 10).toNatClampNeg
def okTm (f : Nat → Int32) : Prop := f 10 = nI (ztm f) ∧ ztm f ≤ 5
theorem okTm_of {f f' : Nat → Int32} (h : f' 10 = f 10) (hM : okTm f) : okTm f' := by
  have e : ztm f' = ztm f := by unfold ztm; rw [h]
  unfold okTm
  rw [h, e]
  exact hM
/-- the end of an hour: the melted, the clock -/
def clF (f : Nat → Int32) (a : Int32) : Nat → Int32 := if (upd (upd f 6 (f 6 + a)) 8 ((upd f 6 (f 6 + a)) 8 + nI 1)) 8 = nI 12 then upd (upd (upd (upd f 6 (f 6 + a)) 8 ((upd f 6 (f 6 + a)) 8 + nI 1)) 8 (nI 0)) 9 ((upd (upd (upd f 6 (f 6 + a)) 8 ((upd f 6 (f 6 + a)) 8 + nI 1)) 8 (nI 0)) 9 + nI 1) else upd (upd f 6 (f 6 + a)) 8 ((upd f 6 (f 6 + a)) 8 + nI 1)
theorem clF_un (f : Nat → Int32) (a : Int32) {j : Nat} (h6 : j ≠ 6) (h8 : j ≠ 8) (h9 : j ≠ 9) : clF f a j = f j := by
  unfold clF
  split
  · rw [pk_un h9, pk_un h8, pk_un h8, pk_un h6]
  · rw [pk_un h8, pk_un h6]
/-- the row behind an hour of sun; behind an hour of clouds -/
def paF0 (f : Nat → Int32) : Nat → Int32 := clF (ptF (pdF (psF f 48) 8) (ztm (pdF (psF f 48) 8))) (psA f 48)
def paF1 (f : Nat → Int32) : Nat → Int32 := clF (ptF (pdF f 8) (ztm (pdF f 8))) (nI 0)
theorem okM_pt {f : Nat → Int32} (hM : okM f) (n : Nat) (a : Int32) : okM (clF (ptF (pdF f 8) n) a) := okM_of (f := pdF f 8) (fun j h1 h2 => (clF_un _ _ (by omega) (by omega) (by omega)).trans (ptF_lo _ _ _ (by omega))) (okM_pd hM 8 (Nat.le_refl 8))
theorem okTm_pt {f : Nat → Int32} (hM : okTm f) (n : Nat) (a : Int32) : okTm (clF (ptF (pdF f 8) n) a) := okTm_of (((clF_un _ _ (by omega) (by omega) (by omega)).trans (ptF_lo _ _ _ (by omega))).trans (pdF_lo _ _ _ (by omega))) hM
theorem okM_0 {f : Nat → Int32} (hM : okM f) : okM (paF0 f) := okM_pt (okM_of (fun j _ h2 => psF_lo f 48 j (by omega)) hM) _ _
theorem okTm_0 {f : Nat → Int32} (hM : okTm f) : okTm (paF0 f) := okTm_pt (okTm_of (psF_lo f 48 10 (by omega)) hM) _ _
theorem okM_1 {f : Nat → Int32} (hM : okM f) : okM (paF1 f) := okM_pt hM _ _
theorem okTm_1 {f : Nat → Int32} (hM : okTm f) : okTm (paF1 f) := okTm_pt hM _ _
def pn0 (f : Nat → Int32) : Nat → Nat → Int32
  | 0 => f
  | n + 1 => paF0 (pn0 f n)
def pn1 (f : Nat → Int32) : Nat → Nat → Int32
  | 0 => f
  | n + 1 => paF1 (pn1 f n)
def pnS (f : Nat → Int32) : Nat → Int32
  | 0 => nI 0
  | n + 1 => pnS f n + psA (pn0 f n) 48
def pnZ : Nat → Int32
  | 0 => nI 0
  | n + 1 => pnZ n + nI 0
theorem ok_pn0 {f : Nat → Int32} (hM : okM f) (hT : okTm f) : ∀ n, okM (pn0 f n) ∧ okTm (pn0 f n)
  | 0 => ⟨hM, hT⟩
  | n + 1 => ⟨okM_0 (ok_pn0 hM hT n).1, okTm_0 (ok_pn0 hM hT n).2⟩
theorem ok_pn1 {f : Nat → Int32} (hM : okM f) (hT : okTm f) : ∀ n, okM (pn1 f n) ∧ okTm (pn1 f n)
  | 0 => ⟨hM, hT⟩
  | n + 1 => ⟨okM_1 (ok_pn1 hM hT n).1, okTm_1 (ok_pn1 hM hT n).2⟩
theorem iX10_pass_X10 : ∀ w ∈ u_ws RX10 TX10 15, w ∈ wsX10_pass := by decide +kernel
set_option maxHeartbeats 4000000 in
set_option maxRecDepth 100000 in
/-- pass, sun -/
theorem c_X10_pass_0 {l : Launch} {y : zY} {D : va_G} (q : Nat → Nat) (h : Nat → Nat → Int32) (hM : okM (h 1)) (hT : okTm (h 1)) : zM l y D yX10_pass wsX10_pass 4 88 [.ref (q 0), .int (nI 0)] (zMo y q h) (zMo y q (va_up h 1 (paF0 (h 1)))) (some (.int (psA (h 1) 48))) := by
  refine z_start (own := RX10) (cc := cX10_pass) (maxL := 7) (ret := (some .int)) rfl (by decide +kernel) rfl (Nat.le_of_ble_eq_true rfl) (zMo_fst _ _ _ _) ?_
  intro E hEl hEy hED hC hf
  subst hEl hEy hED
  have hkR : 0 ≤ E.2.2.2.2.2.1.cells ∧ 0 ≤ E.2.2.2.2.2.1.slots := ⟨Nat.zero_le _, Nat.zero_le _⟩
  refine z_cast (lv := [(0, .ref (q 0)), (1, .int (nI 0))]) (ws := (zMo (zy E) q h)) (st := []) ?_ rfl rfl rfl
  refine z_iconst hC (nI 0) (by decide +kernel) dX10_pass_0 ?_
  refine z_istore_n hC (by decide) (lv' := [(2, .int (nI 0)), (0, .ref (q 0)), (1, .int (nI 0))]) rfl dX10_pass_1 ?_
  refine z_iconst hC (nI 0) (by decide +kernel) dX10_pass_2 ?_
  refine z_istore_n hC (by decide) (lv' := [(3, .int (nI 0)), (2, .int (nI 0)), (0, .ref (q 0)), (1, .int (nI 0))]) rfl dX10_pass_3 ?_
  have lp_4 : ∀ (d_4 c : Nat), 48 < c + d_4 → c ≤ 48 → Z E 0 0 [(0, .ref (q 0)), (1, .int (nI 0)), (2, .int (psA (h 1) c)), (3, .int (nI c))] (zMo (zy E) q (va_up h 1 (psF (h 1) c))) 4 [] := by
    intro d_4
    induction d_4 with
    | zero => intro c  q1 q2; omega
    | succ d_4 ih_4 =>
      intro c  q1_4 q2_4 
      refine z_iload_n hC 3 rfl dX10_pass_4 ?_
      refine z_bipush hC (nI 48) (by decide +kernel) dX10_pass_5 ?_
      refine z_icmp_ge hC 153 dX10_pass_7 (by decide) (fun c_7 => ?_) (fun c_7 => ?_)
      · have k_7 : 48 ≤ c := (nI_leI (by omega) (by omega)).mp c_7
        obtain rfl : c = 48 := by omega
        refine z_gen (fun f1 => zMo (zy E) q (va_up h 1 f1)) (psF (h 1) 48) (fun f1 hf1 => ?_)
        have hk1 : okM f1 := by rw [hf1]; exact okM_of (fun j _ h2 => psF_lo (h 1) 48 j (by omega)) hM
        have ht1 : okTm f1 := by rw [hf1]; exact okTm_of (psF_lo (h 1) 48 10 (by omega)) hT
        refine z_iconst hC (nI 0) (by decide +kernel) dX10_pass_153 ?_
        refine z_istore_n hC (by decide) (lv' := [(3, .int (nI 0)), (0, .ref (q 0)), (1, .int (nI 0)), (2, .int (psA (h 1) 48))]) rfl dX10_pass_154 ?_
        have lp_155 : ∀ (d_155 s : Nat), 8 < s + d_155 → s ≤ 8 → Z E 0 0 [(0, .ref (q 0)), (1, .int (nI 0)), (2, .int (psA (h 1) 48)), (3, .int (nI s))] (zMo (zy E) q (va_up h 1 (pdF f1 s))) 155 [] := by
          intro d_155
          induction d_155 with
          | zero => intro s  q1 q2; omega
          | succ d_155 ih_155 =>
            intro s  q1_155 q2_155 
            refine z_iload_n hC 3 rfl dX10_pass_155 ?_
            refine z_bipush hC (nI 8) (by decide +kernel) dX10_pass_156 ?_
            refine z_icmp_ge hC 172 dX10_pass_158 (by decide) (fun c_158 => ?_) (fun c_158 => ?_)
            · have k_158 : 8 ≤ s := (nI_leI (by omega) (by omega)).mp c_158
              obtain rfl : s = 8 := by omega
              refine z_gen (fun f2 => zMo (zy E) q (va_up h 1 f2)) (pdF f1 8) (fun f2 hf2 => ?_)
              have ht2 : okTm f2 := by rw [hf2]; exact okTm_of (pdF_lo _ 8 10 (by omega)) ht1
              refine z_iconst hC (nI 0) (by decide +kernel) dX10_pass_172 ?_
              refine z_istore_n hC (by decide) (lv' := [(3, .int (nI 0)), (0, .ref (q 0)), (1, .int (nI 0)), (2, .int (psA (h 1) 48))]) rfl dX10_pass_173 ?_
              have lp_174 : ∀ (d_174 t : Nat), (ztm f2) < t + d_174 → t ≤ (ztm f2) → Z E 0 0 [(0, .ref (q 0)), (1, .int (nI 0)), (2, .int (psA (h 1) 48)), (3, .int (nI t))] (zMo (zy E) q (va_up h 1 (ptF f2 t))) 174 [] := by
                intro d_174
                induction d_174 with
                | zero => intro t  q1 q2; omega
                | succ d_174 ih_174 =>
                  intro t  q1_174 q2_174 
                  have hz := ht2.2
                  refine z_iload_n hC 3 rfl dX10_pass_174 ?_
                  refine z_aload_n hC 0 rfl dX10_pass_175 ?_
                  refine z_get hC 0 8 0 (v := .ref (q 1)) rfl rfl iX10_pass_X10 (by decide) (List.mem_of_getElem? (i := 1) (by decide +kernel)) rfl rfl dX10_pass_176 ?_
                  refine z_bipush hC (nI 10) (by decide +kernel) dX10_pass_179 ?_
                  refine z_iald hC 1 10 (f := ptF f2 t) rfl rfl rfl (by omega) (by decide) dX10_pass_181 ?_
                  refine z_top (nI (ztm f2)) (by rw [ptF_lo _ _ _ (by omega)]; exact ht2.1) ?_
                  refine z_icmp_ge hC 203 dX10_pass_182 (by decide) (fun c_182 => ?_) (fun c_182 => ?_)
                  · have k_182 : (ztm f2) ≤ t := (nI_leI (by omega) (by omega)).mp c_182
                    obtain rfl : t = ztm f2 := by omega
                    refine z_gen (fun f3 => zMo (zy E) q (va_up h 1 f3)) (ptF f2 (ztm f2)) (fun f3 hf3 => ?_)
                    have hp : paF0 (h 1) = clF f3 (psA (h 1) 48) := by rw [hf3, hf2, hf1, paF0]
                    refine z_aload_n hC 0 rfl dX10_pass_203 ?_
                    refine z_get hC 0 8 0 (v := .ref (q 1)) rfl rfl iX10_pass_X10 (by decide) (List.mem_of_getElem? (i := 1) (by decide +kernel)) rfl rfl dX10_pass_204 ?_
                    refine z_bipush hC (nI 6) (by decide +kernel) dX10_pass_207 ?_
                    refine z_dup2 hC dX10_pass_209 rfl rfl ?_
                    refine z_iald hC 1 6 (f := f3) rfl rfl rfl (by omega) (by decide) dX10_pass_210 ?_
                    refine z_iload_n hC 2 rfl dX10_pass_211 ?_
                    refine z_iadd hC dX10_pass_212 ?_
                    refine z_iast hC 1 6 ((f3 6) + (psA (h 1) 48)) (ws' := zMo (zy E) q (va_up h 1 (upd f3 6 ((f3 6) + (psA (h 1) 48))))) rfl rfl rfl rfl (by omega) (by decide) rfl dX10_pass_213 ?_
                    refine z_aload_n hC 0 rfl dX10_pass_214 ?_
                    refine z_get hC 0 8 0 (v := .ref (q 1)) rfl rfl iX10_pass_X10 (by decide) (List.mem_of_getElem? (i := 1) (by decide +kernel)) rfl rfl dX10_pass_215 ?_
                    refine z_bipush hC (nI 8) (by decide +kernel) dX10_pass_218 ?_
                    refine z_dup2 hC dX10_pass_220 rfl rfl ?_
                    refine z_iald hC 1 8 (f := upd f3 6 ((f3 6) + (psA (h 1) 48))) rfl rfl rfl (by omega) (by decide) dX10_pass_221 ?_
                    refine z_iconst hC (nI 1) (by decide +kernel) dX10_pass_222 ?_
                    refine z_iadd hC dX10_pass_223 ?_
                    refine z_iast hC 1 8 (((upd f3 6 ((f3 6) + (psA (h 1) 48))) 8) + (nI 1)) (ws' := zMo (zy E) q (va_up h 1 (upd (upd f3 6 ((f3 6) + (psA (h 1) 48))) 8 (((upd f3 6 ((f3 6) + (psA (h 1) 48))) 8) + (nI 1))))) rfl rfl rfl rfl (by omega) (by decide) rfl dX10_pass_224 ?_
                    refine z_aload_n hC 0 rfl dX10_pass_225 ?_
                    refine z_get hC 0 8 0 (v := .ref (q 1)) rfl rfl iX10_pass_X10 (by decide) (List.mem_of_getElem? (i := 1) (by decide +kernel)) rfl rfl dX10_pass_226 ?_
                    refine z_bipush hC (nI 8) (by decide +kernel) dX10_pass_229 ?_
                    refine z_iald hC 1 8 (f := upd (upd f3 6 ((f3 6) + (psA (h 1) 48))) 8 (((upd f3 6 ((f3 6) + (psA (h 1) 48))) 8) + (nI 1))) rfl rfl rfl (by omega) (by decide) dX10_pass_231 ?_
                    refine z_bipush hC (nI 12) (by decide +kernel) dX10_pass_232 ?_
                    refine z_icmp_ne hC 256 dX10_pass_234 (by decide) (fun c_234 => ?_) (fun c_234 => ?_)
                    · refine z_iload_n hC 2 rfl dX10_pass_256 ?_
                      exact z_iret hC hf rfl rfl (by rw [hp, clF, if_neg c_234]) dX10_pass_257
                    · refine z_aload_n hC 0 rfl dX10_pass_237 ?_
                      refine z_get hC 0 8 0 (v := .ref (q 1)) rfl rfl iX10_pass_X10 (by decide) (List.mem_of_getElem? (i := 1) (by decide +kernel)) rfl rfl dX10_pass_238 ?_
                      refine z_bipush hC (nI 8) (by decide +kernel) dX10_pass_241 ?_
                      refine z_iconst hC (nI 0) (by decide +kernel) dX10_pass_243 ?_
                      refine z_iast hC 1 8 (nI 0) (ws' := zMo (zy E) q (va_up h 1 (upd (upd (upd f3 6 ((f3 6) + (psA (h 1) 48))) 8 (((upd f3 6 ((f3 6) + (psA (h 1) 48))) 8) + (nI 1))) 8 (nI 0)))) rfl rfl rfl rfl (by omega) (by decide) rfl dX10_pass_244 ?_
                      refine z_aload_n hC 0 rfl dX10_pass_245 ?_
                      refine z_get hC 0 8 0 (v := .ref (q 1)) rfl rfl iX10_pass_X10 (by decide) (List.mem_of_getElem? (i := 1) (by decide +kernel)) rfl rfl dX10_pass_246 ?_
                      refine z_bipush hC (nI 9) (by decide +kernel) dX10_pass_249 ?_
                      refine z_dup2 hC dX10_pass_251 rfl rfl ?_
                      refine z_iald hC 1 9 (f := upd (upd (upd f3 6 ((f3 6) + (psA (h 1) 48))) 8 (((upd f3 6 ((f3 6) + (psA (h 1) 48))) 8) + (nI 1))) 8 (nI 0)) rfl rfl rfl (by omega) (by decide) dX10_pass_252 ?_
                      refine z_iconst hC (nI 1) (by decide +kernel) dX10_pass_253 ?_
                      refine z_iadd hC dX10_pass_254 ?_
                      refine z_iast hC 1 9 (((upd (upd (upd f3 6 ((f3 6) + (psA (h 1) 48))) 8 (((upd f3 6 ((f3 6) + (psA (h 1) 48))) 8) + (nI 1))) 8 (nI 0)) 9) + (nI 1)) (ws' := zMo (zy E) q (va_up h 1 (upd (upd (upd (upd f3 6 ((f3 6) + (psA (h 1) 48))) 8 (((upd f3 6 ((f3 6) + (psA (h 1) 48))) 8) + (nI 1))) 8 (nI 0)) 9 (((upd (upd (upd f3 6 ((f3 6) + (psA (h 1) 48))) 8 (((upd f3 6 ((f3 6) + (psA (h 1) 48))) 8) + (nI 1))) 8 (nI 0)) 9) + (nI 1))))) rfl rfl rfl rfl (by omega) (by decide) rfl dX10_pass_255 ?_
                      refine z_iload_n hC 2 rfl dX10_pass_256 ?_
                      exact z_iret hC hf rfl rfl (by rw [hp, clF, if_pos c_234]) dX10_pass_257
                  · have k_182 : ¬ ((ztm f2) ≤ t) := fun q => c_182 ((nI_leI (by omega) (by omega)).mpr q)
                    refine z_aload_n hC 0 rfl dX10_pass_185 ?_
                    refine z_get hC 0 8 0 (v := .ref (q 1)) rfl rfl iX10_pass_X10 (by decide) (List.mem_of_getElem? (i := 1) (by decide +kernel)) rfl rfl dX10_pass_186 ?_
                    refine z_sipush hC (nI 145) (by decide +kernel) dX10_pass_189 ?_
                    refine z_iload_n hC 3 rfl dX10_pass_192 ?_
                    refine z_iadd hC dX10_pass_193 ?_
                    refine z_top (nI (145 + t)) (nI_add _ _) ?_
                    refine z_bipush hC (nI 60) (by decide +kernel) dX10_pass_194 ?_
                    refine z_iast hC 1 (145 + t) (nI 60) (ws' := zMo (zy E) q (va_up h 1 (upd (ptF f2 t) (145 + t) (nI 60)))) rfl rfl rfl rfl (by omega) (by decide) rfl dX10_pass_196 ?_
                    refine z_iinc hC 3 (nI (t + 1)) rfl z_i1 (by decide) (lv' := [(3, .int (nI (t + 1))), (0, .ref (q 0)), (1, .int (nI 0)), (2, .int (psA (h 1) 48))]) rfl dX10_pass_197 ?_
                    refine z_goto hC 174 dX10_pass_200 (by decide) ?_
                    refine z_sub [1, 2, 3, 0] (lv' := [(0, .ref (q 0)), (1, .int (nI 0)), (2, .int (psA (h 1) 48)), (3, .int (nI (t + 1)))]) rfl ?_
                    exact z_cast (ih_174 (t + 1) (by omega) (by omega)) rfl rfl rfl
              refine z_sub [1, 2, 3, 0] (lv' := [(0, .ref (q 0)), (1, .int (nI 0)), (2, .int (psA (h 1) 48)), (3, .int (nI 0))]) rfl ?_
              exact z_cast (lp_174 ((ztm f2) + 1) 0 (by omega) (by omega)) rfl rfl rfl
            · have k_158 : ¬ (8 ≤ s) := fun q => c_158 ((nI_leI (by omega) (by omega)).mpr q)
              refine z_aload_n hC 0 rfl dX10_pass_161 ?_
              refine z_iload_n hC 3 rfl dX10_pass_162 ?_
              refine z_callV hC (As := [.int (nI s)]) (st := []) (ws2 := zMo (zy E) q (va_up (va_up h 1 (pdF f1 s)) 1 (dmF ((va_up h 1 (pdF f1 s)) 1) s))) (B := zMo (zy E) q (va_up h 1 (pdF f1 s))) (B' := zMo (zy E) q (va_up (va_up h 1 (pdF f1 s)) 1 (dmF ((va_up h 1 (pdF f1 s)) 1) s))) (r := none) 1 (c_X10_drop q (va_up h 1 (pdF f1 s)) s (by omega) (okM_pd hk1 s (by omega))) gX10_pass_X10_drop (q0 := 0) (ci := 8) (by decide +kernel) rfl rfl rfl ⟨by decide, by decide⟩ [0, 1, 2, 3, 4, 5, 6] rfl (by decide) rfl (Nat.le_of_ble_eq_true rfl) rfl rfl dX10_pass_163 ?_ hkR
              refine z_iinc hC 3 (nI (s + 1)) rfl z_i1 (by decide) (lv' := [(3, .int (nI (s + 1))), (0, .ref (q 0)), (1, .int (nI 0)), (2, .int (psA (h 1) 48))]) rfl dX10_pass_166 ?_
              refine z_goto hC 155 dX10_pass_169 (by decide) ?_
              refine z_sub [1, 2, 3, 0] (lv' := [(0, .ref (q 0)), (1, .int (nI 0)), (2, .int (psA (h 1) 48)), (3, .int (nI (s + 1)))]) rfl ?_
              exact z_cast (ih_155 (s + 1) (by omega) (by omega)) rfl rfl rfl
        refine z_sub [1, 2, 3, 0] (lv' := [(0, .ref (q 0)), (1, .int (nI 0)), (2, .int (psA (h 1) 48)), (3, .int (nI 0))]) rfl ?_
        exact z_cast (lp_155 (8 + 1) 0 (by omega) (by omega)) rfl rfl rfl
      · have k_7 : ¬ (48 ≤ c) := fun q => c_7 ((nI_leI (by omega) (by omega)).mpr q)
        refine z_iload_n hC 1 rfl dX10_pass_10 ?_
        refine z_if_ne hC 153 dX10_pass_11 (by decide) (fun c_11 => ?_) (fun c_11 => ?_)
        · exact absurd c_11 (by decide +kernel)
        · refine z_iload_n hC 3 rfl dX10_pass_14 ?_
          refine z_bipush hC (nI 6) (by decide +kernel) dX10_pass_15 ?_
          refine z_idiv hC dX10_pass_17 (by decide +kernel) ?_
          refine z_top (nI (c / 6)) (pk_div (by omega) (by omega) (by omega)) ?_
          refine z_istore hC (by decide) (lv' := [(4, .int (nI (c / 6))), (0, .ref (q 0)), (1, .int (nI 0)), (2, .int (psA (h 1) c)), (3, .int (nI c))]) rfl dX10_pass_18 ?_
          refine z_iload_n hC 4 rfl dX10_pass_20 ?_
          refine z_bipush hC (nI 6) (by decide +kernel) dX10_pass_21 ?_
          refine z_irem hC dX10_pass_23 (by decide +kernel) ?_
          refine z_top (nI (c % 6)) (pk_rem (by omega) (by omega) (by omega)) ?_
          refine z_aload_n hC 1 rfl dX10_pass_24 ?_
          refine z_get hC 0 8 0 (v := .ref (q 1)) rfl rfl iX10_pass_X10 (by decide) (List.mem_of_getElem? (i := 1) (by decide +kernel)) rfl rfl dX10_pass_25 ?_
          refine z_bipush hC (nI 12) (by decide +kernel) dX10_pass_28 ?_
          refine z_iload hC 0 rfl dX10_pass_30 ?_
          refine z_iadd hC dX10_pass_32 ?_
          refine z_top (nI (12 + (c / 6))) (nI_add _ _) ?_
          refine z_iald hC 1 (12 + (c / 6)) (f := psF (h 1) c) rfl rfl rfl (by omega) (by decide) dX10_pass_33 ?_
          refine z_icmp_ge hC 41 dX10_pass_34 (by decide) (fun c_34 => ?_) (fun c_34 => ?_)
          · have e9 : psV (psF (h 1) c) c = nI 0 := if_pos c_34
            refine z_iconst hC (nI 0) (by decide +kernel) dX10_pass_41 ?_
            refine z_istore hC (by decide) (lv' := [(5, .int (nI 0)), (4, .int (nI (c / 6))), (0, .ref (q 0)), (1, .int (nI 0)), (2, .int (psA (h 1) c)), (3, .int (nI c))]) rfl dX10_pass_42 ?_
            refine z_iload hC 0 rfl dX10_pass_44 ?_
            refine z_if_eq hC 75 dX10_pass_46 (by decide) (fun c_46 => ?_) (fun c_46 => ?_)
            · refine z_iconst hC (nI 0) (by decide +kernel) dX10_pass_75 ?_
              refine z_istore hC (by decide) (lv' := [(6, .int (nI 0)), (5, .int (nI 0)), (4, .int (nI (c / 6))), (0, .ref (q 0)), (1, .int (nI 0)), (2, .int (psA (h 1) c)), (3, .int (nI c))]) rfl dX10_pass_76 ?_
              refine z_iload hC 1 rfl dX10_pass_78 ?_
              refine z_if_eq hC 109 dX10_pass_80 (by decide) (fun c_80 => ?_) (fun c_80 => ?_)
              · refine z_iload hC 0 rfl dX10_pass_109 ?_
                refine z_istore hC (by decide) (lv' := [(6, .int (nI 0)), (5, .int (nI 0)), (4, .int (nI (c / 6))), (0, .ref (q 0)), (1, .int (nI 0)), (2, .int (psA (h 1) c)), (3, .int (nI c))]) rfl dX10_pass_111 ?_
                refine z_aload_n hC 3 rfl dX10_pass_113 ?_
                refine z_get hC 0 8 0 (v := .ref (q 1)) rfl rfl iX10_pass_X10 (by decide) (List.mem_of_getElem? (i := 1) (by decide +kernel)) rfl rfl dX10_pass_114 ?_
                refine z_bipush hC (nI 92) (by decide +kernel) dX10_pass_117 ?_
                refine z_iload_n hC 6 rfl dX10_pass_119 ?_
                refine z_iadd hC dX10_pass_120 ?_
                refine z_top (nI (92 + c)) (nI_add _ _) ?_
                refine z_dup2 hC dX10_pass_121 rfl rfl ?_
                refine z_iald hC 1 (92 + c) (f := psF (h 1) c) rfl rfl rfl (by omega) (by decide) dX10_pass_122 ?_
                refine z_iload hC 0 rfl dX10_pass_123 ?_
                refine z_isub hC dX10_pass_125 ?_
                refine z_iast hC 1 (92 + c) (((psF (h 1) c) (92 + c)) - (nI 0)) (ws' := zMo (zy E) q (va_up h 1 (upd (psF (h 1) c) (92 + c) (((psF (h 1) c) (92 + c)) - (nI 0))))) rfl rfl rfl rfl (by omega) (by decide) rfl dX10_pass_126 ?_
                refine z_aload_n hC 3 rfl dX10_pass_127 ?_
                refine z_get hC 0 8 0 (v := .ref (q 1)) rfl rfl iX10_pass_X10 (by decide) (List.mem_of_getElem? (i := 1) (by decide +kernel)) rfl rfl dX10_pass_128 ?_
                refine z_bipush hC (nI 36) (by decide +kernel) dX10_pass_131 ?_
                refine z_iload hC 2 rfl dX10_pass_133 ?_
                refine z_iadd hC dX10_pass_135 ?_
                refine z_top (nI (36 + (c / 6))) (nI_add _ _) ?_
                refine z_dup2 hC dX10_pass_136 rfl rfl ?_
                refine z_iald hC 1 (36 + (c / 6)) (f := upd (psF (h 1) c) (92 + c) (((psF (h 1) c) (92 + c)) - (nI 0))) rfl rfl rfl (by omega) (by decide) dX10_pass_137 ?_
                refine z_iload hC 0 rfl dX10_pass_138 ?_
                refine z_iadd hC dX10_pass_140 ?_
                refine z_iast hC 1 (36 + (c / 6)) (((upd (psF (h 1) c) (92 + c) (((psF (h 1) c) (92 + c)) - (nI 0))) (36 + (c / 6))) + (nI 0)) (ws' := zMo (zy E) q (va_up h 1 (upd (upd (psF (h 1) c) (92 + c) (((psF (h 1) c) (92 + c)) - (nI 0))) (36 + (c / 6)) (((upd (psF (h 1) c) (92 + c) (((psF (h 1) c) (92 + c)) - (nI 0))) (36 + (c / 6))) + (nI 0))))) rfl rfl rfl rfl (by omega) (by decide) rfl dX10_pass_141 ?_
                refine z_iload_n hC 5 rfl dX10_pass_142 ?_
                refine z_iload hC 0 rfl dX10_pass_143 ?_
                refine z_iadd hC dX10_pass_145 ?_
                refine z_istore_n hC (by decide) (lv' := [(2, .int ((psA (h 1) c) + (nI 0))), (6, .int (nI 0)), (5, .int (nI 0)), (4, .int (nI (c / 6))), (0, .ref (q 0)), (1, .int (nI 0)), (3, .int (nI c))]) rfl dX10_pass_146 ?_
                refine z_iinc hC 6 (nI (c + 1)) rfl z_i1 (by decide) (lv' := [(3, .int (nI (c + 1))), (2, .int ((psA (h 1) c) + (nI 0))), (6, .int (nI 0)), (5, .int (nI 0)), (4, .int (nI (c / 6))), (0, .ref (q 0)), (1, .int (nI 0))]) rfl dX10_pass_147 ?_
                refine z_goto hC 4 dX10_pass_150 (by decide) ?_
                refine z_sub [5, 6, 1, 0] (lv' := [(0, .ref (q 0)), (1, .int (nI 0)), (2, .int ((psA (h 1) c) + (nI 0))), (3, .int (nI (c + 1)))]) rfl ?_
                exact z_cast (ih_4 (c + 1) (by omega) (by omega)) (by simp only [psA, e9]) (by simp only [psF, e9]) rfl
              · exact absurd c_80 (by decide +kernel)
            · exact absurd c_46 (by decide +kernel)
          · refine z_iconst hC (nI 1) (by decide +kernel) dX10_pass_37 ?_
            refine z_goto hC 42 dX10_pass_38 (by decide) ?_
            refine z_istore hC (by decide) (lv' := [(5, .int (nI 1)), (4, .int (nI (c / 6))), (0, .ref (q 0)), (1, .int (nI 0)), (2, .int (psA (h 1) c)), (3, .int (nI c))]) rfl dX10_pass_42 ?_
            refine z_iload hC 0 rfl dX10_pass_44 ?_
            refine z_if_eq hC 75 dX10_pass_46 (by decide) (fun c_46 => ?_) (fun c_46 => ?_)
            · exact absurd c_46 (by decide +kernel)
            · refine z_aload_n hC 2 rfl dX10_pass_49 ?_
              refine z_get hC 0 8 0 (v := .ref (q 1)) rfl rfl iX10_pass_X10 (by decide) (List.mem_of_getElem? (i := 1) (by decide +kernel)) rfl rfl dX10_pass_50 ?_
              refine z_bipush hC (nI 44) (by decide +kernel) dX10_pass_53 ?_
              refine z_iload_n hC 5 rfl dX10_pass_55 ?_
              refine z_iadd hC dX10_pass_56 ?_
              refine z_top (nI (44 + c)) (nI_add _ _) ?_
              refine z_iald hC 1 (44 + c) (f := psF (h 1) c) rfl rfl rfl (by omega) (by decide) dX10_pass_57 ?_
              refine z_callS hC (As := [.int ((psF (h 1) c) (44 + c))]) (st := []) (ws2 := zMo (zy E) q (va_up h 1 (psF (h 1) c))) (B := []) (B' := []) (r := some (.int (rt ((psF (h 1) c) (44 + c))))) 1 (c_X10_rate ((psF (h 1) c) (44 + c))) gX10_pass_X10_rate (by decide +kernel) rfl ⟨by decide, by decide⟩ [] rfl (by decide) rfl (Nat.le_of_ble_eq_true rfl) rfl rfl dX10_pass_58 ?_ hkR
              refine z_aload_n hC 2 rfl dX10_pass_61 ?_
              refine z_iload hC 1 rfl dX10_pass_62 ?_
              refine z_iload_n hC 5 rfl dX10_pass_64 ?_
              refine z_bipush hC (nI 6) (by decide +kernel) dX10_pass_65 ?_
              refine z_irem hC dX10_pass_67 (by decide +kernel) ?_
              refine z_top (nI (c % 6)) (pk_rem (by omega) (by omega) (by omega)) ?_
              refine z_callV hC (As := [.int (nI (c / 6)), .int (nI (c % 6))]) (st := [.int (rt ((psF (h 1) c) (44 + c)))]) (ws2 := zMo (zy E) q (va_up h 1 (psF (h 1) c))) (B := zMo (zy E) q (va_up h 1 (psF (h 1) c))) (B' := zMo (zy E) q (va_up h 1 (psF (h 1) c))) (r := some (.int (fcM ((va_up h 1 (psF (h 1) c)) 1) (c / 6) (c % 6)))) 2 (c_X10_faces q (va_up h 1 (psF (h 1) c)) (c / 6) (c % 6) (by omega)) gX10_pass_X10_faces (q0 := 0) (ci := 8) (by decide +kernel) rfl rfl rfl ⟨by decide, by decide⟩ [0, 1, 2, 3, 4, 5, 6] rfl (by decide) rfl (Nat.le_of_ble_eq_true rfl) rfl rfl dX10_pass_68 ?_ hkR
              refine z_imul hC dX10_pass_71 ?_
              refine z_top (rt (psF (h 1) c (44 + c)) * fcM (psF (h 1) c) (c / 6) (c % 6)) rfl ?_
              refine z_goto hC 76 dX10_pass_72 (by decide) ?_
              refine z_istore hC (by decide) (lv' := [(6, .int (rt (psF (h 1) c (44 + c)) * fcM (psF (h 1) c) (c / 6) (c % 6))), (5, .int (nI 1)), (4, .int (nI (c / 6))), (0, .ref (q 0)), (1, .int (nI 0)), (2, .int (psA (h 1) c)), (3, .int (nI c))]) rfl dX10_pass_76 ?_
              refine z_iload hC 1 rfl dX10_pass_78 ?_
              refine z_if_eq hC 109 dX10_pass_80 (by decide) (fun c_80 => ?_) (fun c_80 => ?_)
              · exact absurd c_80 (by decide +kernel)
              · refine z_iload hC 0 rfl dX10_pass_83 ?_
                refine z_aload_n hC 3 rfl dX10_pass_85 ?_
                refine z_get hC 0 8 0 (v := .ref (q 1)) rfl rfl iX10_pass_X10 (by decide) (List.mem_of_getElem? (i := 1) (by decide +kernel)) rfl rfl dX10_pass_86 ?_
                refine z_bipush hC (nI 92) (by decide +kernel) dX10_pass_89 ?_
                refine z_iload_n hC 6 rfl dX10_pass_91 ?_
                refine z_iadd hC dX10_pass_92 ?_
                refine z_top (nI (92 + c)) (nI_add _ _) ?_
                refine z_iald hC 1 (92 + c) (f := psF (h 1) c) rfl rfl rfl (by omega) (by decide) dX10_pass_93 ?_
                refine z_icmp_le hC 109 dX10_pass_94 (by decide) (fun c_94 => ?_) (fun c_94 => ?_)
                · have e9 : psV (psF (h 1) c) c = rt (psF (h 1) c (44 + c)) * fcM (psF (h 1) c) (c / 6) (c % 6) := by rw [psV, if_neg c_34, if_pos c_94]
                  refine z_iload hC 0 rfl dX10_pass_109 ?_
                  refine z_istore hC (by decide) (lv' := [(6, .int (rt (psF (h 1) c (44 + c)) * fcM (psF (h 1) c) (c / 6) (c % 6))), (5, .int (nI 1)), (4, .int (nI (c / 6))), (0, .ref (q 0)), (1, .int (nI 0)), (2, .int (psA (h 1) c)), (3, .int (nI c))]) rfl dX10_pass_111 ?_
                  refine z_aload_n hC 3 rfl dX10_pass_113 ?_
                  refine z_get hC 0 8 0 (v := .ref (q 1)) rfl rfl iX10_pass_X10 (by decide) (List.mem_of_getElem? (i := 1) (by decide +kernel)) rfl rfl dX10_pass_114 ?_
                  refine z_bipush hC (nI 92) (by decide +kernel) dX10_pass_117 ?_
                  refine z_iload_n hC 6 rfl dX10_pass_119 ?_
                  refine z_iadd hC dX10_pass_120 ?_
                  refine z_top (nI (92 + c)) (nI_add _ _) ?_
                  refine z_dup2 hC dX10_pass_121 rfl rfl ?_
                  refine z_iald hC 1 (92 + c) (f := psF (h 1) c) rfl rfl rfl (by omega) (by decide) dX10_pass_122 ?_
                  refine z_iload hC 0 rfl dX10_pass_123 ?_
                  refine z_isub hC dX10_pass_125 ?_
                  refine z_iast hC 1 (92 + c) (((psF (h 1) c) (92 + c)) - (rt (psF (h 1) c (44 + c)) * fcM (psF (h 1) c) (c / 6) (c % 6))) (ws' := zMo (zy E) q (va_up h 1 (upd (psF (h 1) c) (92 + c) (((psF (h 1) c) (92 + c)) - (rt (psF (h 1) c (44 + c)) * fcM (psF (h 1) c) (c / 6) (c % 6)))))) rfl rfl rfl rfl (by omega) (by decide) rfl dX10_pass_126 ?_
                  refine z_aload_n hC 3 rfl dX10_pass_127 ?_
                  refine z_get hC 0 8 0 (v := .ref (q 1)) rfl rfl iX10_pass_X10 (by decide) (List.mem_of_getElem? (i := 1) (by decide +kernel)) rfl rfl dX10_pass_128 ?_
                  refine z_bipush hC (nI 36) (by decide +kernel) dX10_pass_131 ?_
                  refine z_iload hC 2 rfl dX10_pass_133 ?_
                  refine z_iadd hC dX10_pass_135 ?_
                  refine z_top (nI (36 + (c / 6))) (nI_add _ _) ?_
                  refine z_dup2 hC dX10_pass_136 rfl rfl ?_
                  refine z_iald hC 1 (36 + (c / 6)) (f := upd (psF (h 1) c) (92 + c) (((psF (h 1) c) (92 + c)) - (rt (psF (h 1) c (44 + c)) * fcM (psF (h 1) c) (c / 6) (c % 6)))) rfl rfl rfl (by omega) (by decide) dX10_pass_137 ?_
                  refine z_iload hC 0 rfl dX10_pass_138 ?_
                  refine z_iadd hC dX10_pass_140 ?_
                  refine z_iast hC 1 (36 + (c / 6)) (((upd (psF (h 1) c) (92 + c) (((psF (h 1) c) (92 + c)) - (rt (psF (h 1) c (44 + c)) * fcM (psF (h 1) c) (c / 6) (c % 6)))) (36 + (c / 6))) + (rt (psF (h 1) c (44 + c)) * fcM (psF (h 1) c) (c / 6) (c % 6))) (ws' := zMo (zy E) q (va_up h 1 (upd (upd (psF (h 1) c) (92 + c) (((psF (h 1) c) (92 + c)) - (rt (psF (h 1) c (44 + c)) * fcM (psF (h 1) c) (c / 6) (c % 6)))) (36 + (c / 6)) (((upd (psF (h 1) c) (92 + c) (((psF (h 1) c) (92 + c)) - (rt (psF (h 1) c (44 + c)) * fcM (psF (h 1) c) (c / 6) (c % 6)))) (36 + (c / 6))) + (rt (psF (h 1) c (44 + c)) * fcM (psF (h 1) c) (c / 6) (c % 6)))))) rfl rfl rfl rfl (by omega) (by decide) rfl dX10_pass_141 ?_
                  refine z_iload_n hC 5 rfl dX10_pass_142 ?_
                  refine z_iload hC 0 rfl dX10_pass_143 ?_
                  refine z_iadd hC dX10_pass_145 ?_
                  refine z_istore_n hC (by decide) (lv' := [(2, .int ((psA (h 1) c) + (rt (psF (h 1) c (44 + c)) * fcM (psF (h 1) c) (c / 6) (c % 6)))), (6, .int (rt (psF (h 1) c (44 + c)) * fcM (psF (h 1) c) (c / 6) (c % 6))), (5, .int (nI 1)), (4, .int (nI (c / 6))), (0, .ref (q 0)), (1, .int (nI 0)), (3, .int (nI c))]) rfl dX10_pass_146 ?_
                  refine z_iinc hC 6 (nI (c + 1)) rfl z_i1 (by decide) (lv' := [(3, .int (nI (c + 1))), (2, .int ((psA (h 1) c) + (rt (psF (h 1) c (44 + c)) * fcM (psF (h 1) c) (c / 6) (c % 6)))), (6, .int (rt (psF (h 1) c (44 + c)) * fcM (psF (h 1) c) (c / 6) (c % 6))), (5, .int (nI 1)), (4, .int (nI (c / 6))), (0, .ref (q 0)), (1, .int (nI 0))]) rfl dX10_pass_147 ?_
                  refine z_goto hC 4 dX10_pass_150 (by decide) ?_
                  refine z_sub [5, 6, 1, 0] (lv' := [(0, .ref (q 0)), (1, .int (nI 0)), (2, .int ((psA (h 1) c) + (rt (psF (h 1) c (44 + c)) * fcM (psF (h 1) c) (c / 6) (c % 6)))), (3, .int (nI (c + 1)))]) rfl ?_
                  exact z_cast (ih_4 (c + 1) (by omega) (by omega)) (by simp only [psA, e9]) (by simp only [psF, e9]) rfl
                · have e9 : psV (psF (h 1) c) c = psF (h 1) c (92 + c) := by rw [psV, if_neg c_34, if_neg c_94]
                  refine z_aload_n hC 3 rfl dX10_pass_97 ?_
                  refine z_get hC 0 8 0 (v := .ref (q 1)) rfl rfl iX10_pass_X10 (by decide) (List.mem_of_getElem? (i := 1) (by decide +kernel)) rfl rfl dX10_pass_98 ?_
                  refine z_bipush hC (nI 92) (by decide +kernel) dX10_pass_101 ?_
                  refine z_iload_n hC 6 rfl dX10_pass_103 ?_
                  refine z_iadd hC dX10_pass_104 ?_
                  refine z_top (nI (92 + c)) (nI_add _ _) ?_
                  refine z_iald hC 1 (92 + c) (f := psF (h 1) c) rfl rfl rfl (by omega) (by decide) dX10_pass_105 ?_
                  refine z_goto hC 111 dX10_pass_106 (by decide) ?_
                  refine z_istore hC (by decide) (lv' := [(6, .int ((psF (h 1) c) (92 + c))), (5, .int (nI 1)), (4, .int (nI (c / 6))), (0, .ref (q 0)), (1, .int (nI 0)), (2, .int (psA (h 1) c)), (3, .int (nI c))]) rfl dX10_pass_111 ?_
                  refine z_aload_n hC 3 rfl dX10_pass_113 ?_
                  refine z_get hC 0 8 0 (v := .ref (q 1)) rfl rfl iX10_pass_X10 (by decide) (List.mem_of_getElem? (i := 1) (by decide +kernel)) rfl rfl dX10_pass_114 ?_
                  refine z_bipush hC (nI 92) (by decide +kernel) dX10_pass_117 ?_
                  refine z_iload_n hC 6 rfl dX10_pass_119 ?_
                  refine z_iadd hC dX10_pass_120 ?_
                  refine z_top (nI (92 + c)) (nI_add _ _) ?_
                  refine z_dup2 hC dX10_pass_121 rfl rfl ?_
                  refine z_iald hC 1 (92 + c) (f := psF (h 1) c) rfl rfl rfl (by omega) (by decide) dX10_pass_122 ?_
                  refine z_iload hC 0 rfl dX10_pass_123 ?_
                  refine z_isub hC dX10_pass_125 ?_
                  refine z_iast hC 1 (92 + c) (((psF (h 1) c) (92 + c)) - ((psF (h 1) c) (92 + c))) (ws' := zMo (zy E) q (va_up h 1 (upd (psF (h 1) c) (92 + c) (((psF (h 1) c) (92 + c)) - ((psF (h 1) c) (92 + c)))))) rfl rfl rfl rfl (by omega) (by decide) rfl dX10_pass_126 ?_
                  refine z_aload_n hC 3 rfl dX10_pass_127 ?_
                  refine z_get hC 0 8 0 (v := .ref (q 1)) rfl rfl iX10_pass_X10 (by decide) (List.mem_of_getElem? (i := 1) (by decide +kernel)) rfl rfl dX10_pass_128 ?_
                  refine z_bipush hC (nI 36) (by decide +kernel) dX10_pass_131 ?_
                  refine z_iload hC 2 rfl dX10_pass_133 ?_
                  refine z_iadd hC dX10_pass_135 ?_
                  refine z_top (nI (36 + (c / 6))) (nI_add _ _) ?_
                  refine z_dup2 hC dX10_pass_136 rfl rfl ?_
                  refine z_iald hC 1 (36 + (c / 6)) (f := upd (psF (h 1) c) (92 + c) (((psF (h 1) c) (92 + c)) - ((psF (h 1) c) (92 + c)))) rfl rfl rfl (by omega) (by decide) dX10_pass_137 ?_
                  refine z_iload hC 0 rfl dX10_pass_138 ?_
                  refine z_iadd hC dX10_pass_140 ?_
                  refine z_iast hC 1 (36 + (c / 6)) (((upd (psF (h 1) c) (92 + c) (((psF (h 1) c) (92 + c)) - ((psF (h 1) c) (92 + c)))) (36 + (c / 6))) + ((psF (h 1) c) (92 + c))) (ws' := zMo (zy E) q (va_up h 1 (upd (upd (psF (h 1) c) (92 + c) (((psF (h 1) c) (92 + c)) - ((psF (h 1) c) (92 + c)))) (36 + (c / 6)) (((upd (psF (h 1) c) (92 + c) (((psF (h 1) c) (92 + c)) - ((psF (h 1) c) (92 + c)))) (36 + (c / 6))) + ((psF (h 1) c) (92 + c)))))) rfl rfl rfl rfl (by omega) (by decide) rfl dX10_pass_141 ?_
                  refine z_iload_n hC 5 rfl dX10_pass_142 ?_
                  refine z_iload hC 0 rfl dX10_pass_143 ?_
                  refine z_iadd hC dX10_pass_145 ?_
                  refine z_istore_n hC (by decide) (lv' := [(2, .int ((psA (h 1) c) + ((psF (h 1) c) (92 + c)))), (6, .int ((psF (h 1) c) (92 + c))), (5, .int (nI 1)), (4, .int (nI (c / 6))), (0, .ref (q 0)), (1, .int (nI 0)), (3, .int (nI c))]) rfl dX10_pass_146 ?_
                  refine z_iinc hC 6 (nI (c + 1)) rfl z_i1 (by decide) (lv' := [(3, .int (nI (c + 1))), (2, .int ((psA (h 1) c) + ((psF (h 1) c) (92 + c)))), (6, .int ((psF (h 1) c) (92 + c))), (5, .int (nI 1)), (4, .int (nI (c / 6))), (0, .ref (q 0)), (1, .int (nI 0))]) rfl dX10_pass_147 ?_
                  refine z_goto hC 4 dX10_pass_150 (by decide) ?_
                  refine z_sub [5, 6, 1, 0] (lv' := [(0, .ref (q 0)), (1, .int (nI 0)), (2, .int ((psA (h 1) c) + ((psF (h 1) c) (92 + c)))), (3, .int (nI (c + 1)))]) rfl ?_
                  exact z_cast (ih_4 (c + 1) (by omega) (by omega)) (by simp only [psA, e9]) (by simp only [psF, e9]) rfl
  refine z_sub [2, 3, 1, 0] (lv' := [(0, .ref (q 0)), (1, .int (nI 0)), (2, .int (nI 0)), (3, .int (nI 0))]) rfl ?_
  exact z_cast (lp_4 (48 + 1) 0 (by omega) (by omega)) rfl rfl rfl

set_option maxHeartbeats 4000000 in
set_option maxRecDepth 100000 in
/-- pass, clouds -/
theorem c_X10_pass_1 {l : Launch} {y : zY} {D : va_G} (q : Nat → Nat) (h : Nat → Nat → Int32) (hM : okM (h 1)) (hT : okTm (h 1)) : zM l y D yX10_pass wsX10_pass 4 88 [.ref (q 0), .int (nI 1)] (zMo y q h) (zMo y q (va_up h 1 (paF1 (h 1)))) (some (.int (nI 0))) := by
  refine z_start (own := RX10) (cc := cX10_pass) (maxL := 7) (ret := (some .int)) rfl (by decide +kernel) rfl (Nat.le_of_ble_eq_true rfl) (zMo_fst _ _ _ _) ?_
  intro E hEl hEy hED hC hf
  subst hEl hEy hED
  have hkR : 0 ≤ E.2.2.2.2.2.1.cells ∧ 0 ≤ E.2.2.2.2.2.1.slots := ⟨Nat.zero_le _, Nat.zero_le _⟩
  refine z_cast (lv := [(0, .ref (q 0)), (1, .int (nI 1))]) (ws := (zMo (zy E) q h)) (st := []) ?_ rfl rfl rfl
  refine z_iconst hC (nI 0) (by decide +kernel) dX10_pass_0 ?_
  refine z_istore_n hC (by decide) (lv' := [(2, .int (nI 0)), (0, .ref (q 0)), (1, .int (nI 1))]) rfl dX10_pass_1 ?_
  refine z_iconst hC (nI 0) (by decide +kernel) dX10_pass_2 ?_
  refine z_istore_n hC (by decide) (lv' := [(3, .int (nI 0)), (2, .int (nI 0)), (0, .ref (q 0)), (1, .int (nI 1))]) rfl dX10_pass_3 ?_
  refine z_iload_n hC 0 rfl dX10_pass_4 ?_
  refine z_bipush hC (nI 48) (by decide +kernel) dX10_pass_5 ?_
  refine z_icmp_ge hC 153 dX10_pass_7 (by decide) (fun c_7 => ?_) (fun c_7 => ?_)
  · have k_7 : 48 ≤ 0 := (nI_leI (by omega) (by omega)).mp c_7
    refine z_iconst hC (nI 0) (by decide +kernel) dX10_pass_153 ?_
    refine z_istore_n hC (by decide) (lv' := [(3, .int (nI 0)), (2, .int (nI 0)), (0, .ref (q 0)), (1, .int (nI 1))]) rfl dX10_pass_154 ?_
    have lp_155 : ∀ (d_155 s : Nat), 8 < s + d_155 → s ≤ 8 → Z E 0 0 [(0, .ref (q 0)), (1, .int (nI 1)), (2, .int (nI 0)), (3, .int (nI s))] (zMo (zy E) q (va_up h 1 (pdF (h 1) s))) 155 [] := by
      intro d_155
      induction d_155 with
      | zero => intro s  q1 q2; omega
      | succ d_155 ih_155 =>
        intro s  q1_155 q2_155 
        refine z_iload_n hC 3 rfl dX10_pass_155 ?_
        refine z_bipush hC (nI 8) (by decide +kernel) dX10_pass_156 ?_
        refine z_icmp_ge hC 172 dX10_pass_158 (by decide) (fun c_158 => ?_) (fun c_158 => ?_)
        · have k_158 : 8 ≤ s := (nI_leI (by omega) (by omega)).mp c_158
          obtain rfl : s = 8 := by omega
          refine z_gen (fun f2 => zMo (zy E) q (va_up h 1 f2)) (pdF (h 1) 8) (fun f2 hf2 => ?_)
          have ht2 : okTm f2 := by rw [hf2]; exact okTm_of (pdF_lo _ 8 10 (by omega)) hT
          refine z_iconst hC (nI 0) (by decide +kernel) dX10_pass_172 ?_
          refine z_istore_n hC (by decide) (lv' := [(3, .int (nI 0)), (0, .ref (q 0)), (1, .int (nI 1)), (2, .int (nI 0))]) rfl dX10_pass_173 ?_
          have lp_174 : ∀ (d_174 t : Nat), (ztm f2) < t + d_174 → t ≤ (ztm f2) → Z E 0 0 [(0, .ref (q 0)), (1, .int (nI 1)), (2, .int (nI 0)), (3, .int (nI t))] (zMo (zy E) q (va_up h 1 (ptF f2 t))) 174 [] := by
            intro d_174
            induction d_174 with
            | zero => intro t  q1 q2; omega
            | succ d_174 ih_174 =>
              intro t  q1_174 q2_174 
              have hz := ht2.2
              refine z_iload_n hC 3 rfl dX10_pass_174 ?_
              refine z_aload_n hC 0 rfl dX10_pass_175 ?_
              refine z_get hC 0 8 0 (v := .ref (q 1)) rfl rfl iX10_pass_X10 (by decide) (List.mem_of_getElem? (i := 1) (by decide +kernel)) rfl rfl dX10_pass_176 ?_
              refine z_bipush hC (nI 10) (by decide +kernel) dX10_pass_179 ?_
              refine z_iald hC 1 10 (f := ptF f2 t) rfl rfl rfl (by omega) (by decide) dX10_pass_181 ?_
              refine z_top (nI (ztm f2)) (by rw [ptF_lo _ _ _ (by omega)]; exact ht2.1) ?_
              refine z_icmp_ge hC 203 dX10_pass_182 (by decide) (fun c_182 => ?_) (fun c_182 => ?_)
              · have k_182 : (ztm f2) ≤ t := (nI_leI (by omega) (by omega)).mp c_182
                obtain rfl : t = ztm f2 := by omega
                refine z_gen (fun f3 => zMo (zy E) q (va_up h 1 f3)) (ptF f2 (ztm f2)) (fun f3 hf3 => ?_)
                have hp : paF1 (h 1) = clF f3 (nI 0) := by rw [hf3, hf2, paF1]
                refine z_aload_n hC 0 rfl dX10_pass_203 ?_
                refine z_get hC 0 8 0 (v := .ref (q 1)) rfl rfl iX10_pass_X10 (by decide) (List.mem_of_getElem? (i := 1) (by decide +kernel)) rfl rfl dX10_pass_204 ?_
                refine z_bipush hC (nI 6) (by decide +kernel) dX10_pass_207 ?_
                refine z_dup2 hC dX10_pass_209 rfl rfl ?_
                refine z_iald hC 1 6 (f := f3) rfl rfl rfl (by omega) (by decide) dX10_pass_210 ?_
                refine z_iload_n hC 2 rfl dX10_pass_211 ?_
                refine z_iadd hC dX10_pass_212 ?_
                refine z_iast hC 1 6 ((f3 6) + (nI 0)) (ws' := zMo (zy E) q (va_up h 1 (upd f3 6 ((f3 6) + (nI 0))))) rfl rfl rfl rfl (by omega) (by decide) rfl dX10_pass_213 ?_
                refine z_aload_n hC 0 rfl dX10_pass_214 ?_
                refine z_get hC 0 8 0 (v := .ref (q 1)) rfl rfl iX10_pass_X10 (by decide) (List.mem_of_getElem? (i := 1) (by decide +kernel)) rfl rfl dX10_pass_215 ?_
                refine z_bipush hC (nI 8) (by decide +kernel) dX10_pass_218 ?_
                refine z_dup2 hC dX10_pass_220 rfl rfl ?_
                refine z_iald hC 1 8 (f := upd f3 6 ((f3 6) + (nI 0))) rfl rfl rfl (by omega) (by decide) dX10_pass_221 ?_
                refine z_iconst hC (nI 1) (by decide +kernel) dX10_pass_222 ?_
                refine z_iadd hC dX10_pass_223 ?_
                refine z_iast hC 1 8 (((upd f3 6 ((f3 6) + (nI 0))) 8) + (nI 1)) (ws' := zMo (zy E) q (va_up h 1 (upd (upd f3 6 ((f3 6) + (nI 0))) 8 (((upd f3 6 ((f3 6) + (nI 0))) 8) + (nI 1))))) rfl rfl rfl rfl (by omega) (by decide) rfl dX10_pass_224 ?_
                refine z_aload_n hC 0 rfl dX10_pass_225 ?_
                refine z_get hC 0 8 0 (v := .ref (q 1)) rfl rfl iX10_pass_X10 (by decide) (List.mem_of_getElem? (i := 1) (by decide +kernel)) rfl rfl dX10_pass_226 ?_
                refine z_bipush hC (nI 8) (by decide +kernel) dX10_pass_229 ?_
                refine z_iald hC 1 8 (f := upd (upd f3 6 ((f3 6) + (nI 0))) 8 (((upd f3 6 ((f3 6) + (nI 0))) 8) + (nI 1))) rfl rfl rfl (by omega) (by decide) dX10_pass_231 ?_
                refine z_bipush hC (nI 12) (by decide +kernel) dX10_pass_232 ?_
                refine z_icmp_ne hC 256 dX10_pass_234 (by decide) (fun c_234 => ?_) (fun c_234 => ?_)
                · refine z_iload_n hC 2 rfl dX10_pass_256 ?_
                  exact z_iret hC hf rfl rfl (by rw [hp, clF, if_neg c_234]) dX10_pass_257
                · refine z_aload_n hC 0 rfl dX10_pass_237 ?_
                  refine z_get hC 0 8 0 (v := .ref (q 1)) rfl rfl iX10_pass_X10 (by decide) (List.mem_of_getElem? (i := 1) (by decide +kernel)) rfl rfl dX10_pass_238 ?_
                  refine z_bipush hC (nI 8) (by decide +kernel) dX10_pass_241 ?_
                  refine z_iconst hC (nI 0) (by decide +kernel) dX10_pass_243 ?_
                  refine z_iast hC 1 8 (nI 0) (ws' := zMo (zy E) q (va_up h 1 (upd (upd (upd f3 6 ((f3 6) + (nI 0))) 8 (((upd f3 6 ((f3 6) + (nI 0))) 8) + (nI 1))) 8 (nI 0)))) rfl rfl rfl rfl (by omega) (by decide) rfl dX10_pass_244 ?_
                  refine z_aload_n hC 0 rfl dX10_pass_245 ?_
                  refine z_get hC 0 8 0 (v := .ref (q 1)) rfl rfl iX10_pass_X10 (by decide) (List.mem_of_getElem? (i := 1) (by decide +kernel)) rfl rfl dX10_pass_246 ?_
                  refine z_bipush hC (nI 9) (by decide +kernel) dX10_pass_249 ?_
                  refine z_dup2 hC dX10_pass_251 rfl rfl ?_
                  refine z_iald hC 1 9 (f := upd (upd (upd f3 6 ((f3 6) + (nI 0))) 8 (((upd f3 6 ((f3 6) + (nI 0))) 8) + (nI 1))) 8 (nI 0)) rfl rfl rfl (by omega) (by decide) dX10_pass_252 ?_
                  refine z_iconst hC (nI 1) (by decide +kernel) dX10_pass_253 ?_
                  refine z_iadd hC dX10_pass_254 ?_
                  refine z_iast hC 1 9 (((upd (upd (upd f3 6 ((f3 6) + (nI 0))) 8 (((upd f3 6 ((f3 6) + (nI 0))) 8) + (nI 1))) 8 (nI 0)) 9) + (nI 1)) (ws' := zMo (zy E) q (va_up h 1 (upd (upd (upd (upd f3 6 ((f3 6) + (nI 0))) 8 (((upd f3 6 ((f3 6) + (nI 0))) 8) + (nI 1))) 8 (nI 0)) 9 (((upd (upd (upd f3 6 ((f3 6) + (nI 0))) 8 (((upd f3 6 ((f3 6) + (nI 0))) 8) + (nI 1))) 8 (nI 0)) 9) + (nI 1))))) rfl rfl rfl rfl (by omega) (by decide) rfl dX10_pass_255 ?_
                  refine z_iload_n hC 2 rfl dX10_pass_256 ?_
                  exact z_iret hC hf rfl rfl (by rw [hp, clF, if_pos c_234]) dX10_pass_257
              · have k_182 : ¬ ((ztm f2) ≤ t) := fun q => c_182 ((nI_leI (by omega) (by omega)).mpr q)
                refine z_aload_n hC 0 rfl dX10_pass_185 ?_
                refine z_get hC 0 8 0 (v := .ref (q 1)) rfl rfl iX10_pass_X10 (by decide) (List.mem_of_getElem? (i := 1) (by decide +kernel)) rfl rfl dX10_pass_186 ?_
                refine z_sipush hC (nI 145) (by decide +kernel) dX10_pass_189 ?_
                refine z_iload_n hC 3 rfl dX10_pass_192 ?_
                refine z_iadd hC dX10_pass_193 ?_
                refine z_top (nI (145 + t)) (nI_add _ _) ?_
                refine z_bipush hC (nI 60) (by decide +kernel) dX10_pass_194 ?_
                refine z_iast hC 1 (145 + t) (nI 60) (ws' := zMo (zy E) q (va_up h 1 (upd (ptF f2 t) (145 + t) (nI 60)))) rfl rfl rfl rfl (by omega) (by decide) rfl dX10_pass_196 ?_
                refine z_iinc hC 3 (nI (t + 1)) rfl z_i1 (by decide) (lv' := [(3, .int (nI (t + 1))), (0, .ref (q 0)), (1, .int (nI 1)), (2, .int (nI 0))]) rfl dX10_pass_197 ?_
                refine z_goto hC 174 dX10_pass_200 (by decide) ?_
                refine z_sub [1, 2, 3, 0] (lv' := [(0, .ref (q 0)), (1, .int (nI 1)), (2, .int (nI 0)), (3, .int (nI (t + 1)))]) rfl ?_
                exact z_cast (ih_174 (t + 1) (by omega) (by omega)) rfl rfl rfl
          refine z_sub [1, 2, 3, 0] (lv' := [(0, .ref (q 0)), (1, .int (nI 1)), (2, .int (nI 0)), (3, .int (nI 0))]) rfl ?_
          exact z_cast (lp_174 ((ztm f2) + 1) 0 (by omega) (by omega)) rfl rfl rfl
        · have k_158 : ¬ (8 ≤ s) := fun q => c_158 ((nI_leI (by omega) (by omega)).mpr q)
          refine z_aload_n hC 0 rfl dX10_pass_161 ?_
          refine z_iload_n hC 3 rfl dX10_pass_162 ?_
          refine z_callV hC (As := [.int (nI s)]) (st := []) (ws2 := zMo (zy E) q (va_up (va_up h 1 (pdF (h 1) s)) 1 (dmF ((va_up h 1 (pdF (h 1) s)) 1) s))) (B := zMo (zy E) q (va_up h 1 (pdF (h 1) s))) (B' := zMo (zy E) q (va_up (va_up h 1 (pdF (h 1) s)) 1 (dmF ((va_up h 1 (pdF (h 1) s)) 1) s))) (r := none) 1 (c_X10_drop q (va_up h 1 (pdF (h 1) s)) s (by omega) (okM_pd hM s (by omega))) gX10_pass_X10_drop (q0 := 0) (ci := 8) (by decide +kernel) rfl rfl rfl ⟨by decide, by decide⟩ [0, 1, 2, 3, 4, 5, 6] rfl (by decide) rfl (Nat.le_of_ble_eq_true rfl) rfl rfl dX10_pass_163 ?_ hkR
          refine z_iinc hC 3 (nI (s + 1)) rfl z_i1 (by decide) (lv' := [(3, .int (nI (s + 1))), (0, .ref (q 0)), (1, .int (nI 1)), (2, .int (nI 0))]) rfl dX10_pass_166 ?_
          refine z_goto hC 155 dX10_pass_169 (by decide) ?_
          refine z_sub [1, 2, 3, 0] (lv' := [(0, .ref (q 0)), (1, .int (nI 1)), (2, .int (nI 0)), (3, .int (nI (s + 1)))]) rfl ?_
          exact z_cast (ih_155 (s + 1) (by omega) (by omega)) rfl rfl rfl
    refine z_sub [2, 3, 1, 0] (lv' := [(0, .ref (q 0)), (1, .int (nI 1)), (2, .int (nI 0)), (3, .int (nI 0))]) rfl ?_
    exact z_cast (lp_155 (8 + 1) 0 (by omega) (by omega)) rfl rfl rfl
  · have k_7 : ¬ (48 ≤ 0) := fun q => c_7 ((nI_leI (by omega) (by omega)).mpr q)
    refine z_iload_n hC 3 rfl dX10_pass_10 ?_
    refine z_if_ne hC 153 dX10_pass_11 (by decide) (fun c_11 => ?_) (fun c_11 => ?_)
    · refine z_iconst hC (nI 0) (by decide +kernel) dX10_pass_153 ?_
      refine z_istore_n hC (by decide) (lv' := [(3, .int (nI 0)), (2, .int (nI 0)), (0, .ref (q 0)), (1, .int (nI 1))]) rfl dX10_pass_154 ?_
      have lp_155 : ∀ (d_155 s : Nat), 8 < s + d_155 → s ≤ 8 → Z E 0 0 [(0, .ref (q 0)), (1, .int (nI 1)), (2, .int (nI 0)), (3, .int (nI s))] (zMo (zy E) q (va_up h 1 (pdF (h 1) s))) 155 [] := by
        intro d_155
        induction d_155 with
        | zero => intro s  q1 q2; omega
        | succ d_155 ih_155 =>
          intro s  q1_155 q2_155 
          refine z_iload_n hC 3 rfl dX10_pass_155 ?_
          refine z_bipush hC (nI 8) (by decide +kernel) dX10_pass_156 ?_
          refine z_icmp_ge hC 172 dX10_pass_158 (by decide) (fun c_158 => ?_) (fun c_158 => ?_)
          · have k_158 : 8 ≤ s := (nI_leI (by omega) (by omega)).mp c_158
            obtain rfl : s = 8 := by omega
            refine z_gen (fun f2 => zMo (zy E) q (va_up h 1 f2)) (pdF (h 1) 8) (fun f2 hf2 => ?_)
            have ht2 : okTm f2 := by rw [hf2]; exact okTm_of (pdF_lo _ 8 10 (by omega)) hT
            refine z_iconst hC (nI 0) (by decide +kernel) dX10_pass_172 ?_
            refine z_istore_n hC (by decide) (lv' := [(3, .int (nI 0)), (0, .ref (q 0)), (1, .int (nI 1)), (2, .int (nI 0))]) rfl dX10_pass_173 ?_
            have lp_174 : ∀ (d_174 t : Nat), (ztm f2) < t + d_174 → t ≤ (ztm f2) → Z E 0 0 [(0, .ref (q 0)), (1, .int (nI 1)), (2, .int (nI 0)), (3, .int (nI t))] (zMo (zy E) q (va_up h 1 (ptF f2 t))) 174 [] := by
              intro d_174
              induction d_174 with
              | zero => intro t  q1 q2; omega
              | succ d_174 ih_174 =>
                intro t  q1_174 q2_174 
                have hz := ht2.2
                refine z_iload_n hC 3 rfl dX10_pass_174 ?_
                refine z_aload_n hC 0 rfl dX10_pass_175 ?_
                refine z_get hC 0 8 0 (v := .ref (q 1)) rfl rfl iX10_pass_X10 (by decide) (List.mem_of_getElem? (i := 1) (by decide +kernel)) rfl rfl dX10_pass_176 ?_
                refine z_bipush hC (nI 10) (by decide +kernel) dX10_pass_179 ?_
                refine z_iald hC 1 10 (f := ptF f2 t) rfl rfl rfl (by omega) (by decide) dX10_pass_181 ?_
                refine z_top (nI (ztm f2)) (by rw [ptF_lo _ _ _ (by omega)]; exact ht2.1) ?_
                refine z_icmp_ge hC 203 dX10_pass_182 (by decide) (fun c_182 => ?_) (fun c_182 => ?_)
                · have k_182 : (ztm f2) ≤ t := (nI_leI (by omega) (by omega)).mp c_182
                  obtain rfl : t = ztm f2 := by omega
                  refine z_gen (fun f3 => zMo (zy E) q (va_up h 1 f3)) (ptF f2 (ztm f2)) (fun f3 hf3 => ?_)
                  have hp : paF1 (h 1) = clF f3 (nI 0) := by rw [hf3, hf2, paF1]
                  refine z_aload_n hC 0 rfl dX10_pass_203 ?_
                  refine z_get hC 0 8 0 (v := .ref (q 1)) rfl rfl iX10_pass_X10 (by decide) (List.mem_of_getElem? (i := 1) (by decide +kernel)) rfl rfl dX10_pass_204 ?_
                  refine z_bipush hC (nI 6) (by decide +kernel) dX10_pass_207 ?_
                  refine z_dup2 hC dX10_pass_209 rfl rfl ?_
                  refine z_iald hC 1 6 (f := f3) rfl rfl rfl (by omega) (by decide) dX10_pass_210 ?_
                  refine z_iload_n hC 2 rfl dX10_pass_211 ?_
                  refine z_iadd hC dX10_pass_212 ?_
                  refine z_iast hC 1 6 ((f3 6) + (nI 0)) (ws' := zMo (zy E) q (va_up h 1 (upd f3 6 ((f3 6) + (nI 0))))) rfl rfl rfl rfl (by omega) (by decide) rfl dX10_pass_213 ?_
                  refine z_aload_n hC 0 rfl dX10_pass_214 ?_
                  refine z_get hC 0 8 0 (v := .ref (q 1)) rfl rfl iX10_pass_X10 (by decide) (List.mem_of_getElem? (i := 1) (by decide +kernel)) rfl rfl dX10_pass_215 ?_
                  refine z_bipush hC (nI 8) (by decide +kernel) dX10_pass_218 ?_
                  refine z_dup2 hC dX10_pass_220 rfl rfl ?_
                  refine z_iald hC 1 8 (f := upd f3 6 ((f3 6) + (nI 0))) rfl rfl rfl (by omega) (by decide) dX10_pass_221 ?_
                  refine z_iconst hC (nI 1) (by decide +kernel) dX10_pass_222 ?_
                  refine z_iadd hC dX10_pass_223 ?_
                  refine z_iast hC 1 8 (((upd f3 6 ((f3 6) + (nI 0))) 8) + (nI 1)) (ws' := zMo (zy E) q (va_up h 1 (upd (upd f3 6 ((f3 6) + (nI 0))) 8 (((upd f3 6 ((f3 6) + (nI 0))) 8) + (nI 1))))) rfl rfl rfl rfl (by omega) (by decide) rfl dX10_pass_224 ?_
                  refine z_aload_n hC 0 rfl dX10_pass_225 ?_
                  refine z_get hC 0 8 0 (v := .ref (q 1)) rfl rfl iX10_pass_X10 (by decide) (List.mem_of_getElem? (i := 1) (by decide +kernel)) rfl rfl dX10_pass_226 ?_
                  refine z_bipush hC (nI 8) (by decide +kernel) dX10_pass_229 ?_
                  refine z_iald hC 1 8 (f := upd (upd f3 6 ((f3 6) + (nI 0))) 8 (((upd f3 6 ((f3 6) + (nI 0))) 8) + (nI 1))) rfl rfl rfl (by omega) (by decide) dX10_pass_231 ?_
                  refine z_bipush hC (nI 12) (by decide +kernel) dX10_pass_232 ?_
                  refine z_icmp_ne hC 256 dX10_pass_234 (by decide) (fun c_234 => ?_) (fun c_234 => ?_)
                  · refine z_iload_n hC 2 rfl dX10_pass_256 ?_
                    exact z_iret hC hf rfl rfl (by rw [hp, clF, if_neg c_234]) dX10_pass_257
                  · refine z_aload_n hC 0 rfl dX10_pass_237 ?_
                    refine z_get hC 0 8 0 (v := .ref (q 1)) rfl rfl iX10_pass_X10 (by decide) (List.mem_of_getElem? (i := 1) (by decide +kernel)) rfl rfl dX10_pass_238 ?_
                    refine z_bipush hC (nI 8) (by decide +kernel) dX10_pass_241 ?_
                    refine z_iconst hC (nI 0) (by decide +kernel) dX10_pass_243 ?_
                    refine z_iast hC 1 8 (nI 0) (ws' := zMo (zy E) q (va_up h 1 (upd (upd (upd f3 6 ((f3 6) + (nI 0))) 8 (((upd f3 6 ((f3 6) + (nI 0))) 8) + (nI 1))) 8 (nI 0)))) rfl rfl rfl rfl (by omega) (by decide) rfl dX10_pass_244 ?_
                    refine z_aload_n hC 0 rfl dX10_pass_245 ?_
                    refine z_get hC 0 8 0 (v := .ref (q 1)) rfl rfl iX10_pass_X10 (by decide) (List.mem_of_getElem? (i := 1) (by decide +kernel)) rfl rfl dX10_pass_246 ?_
                    refine z_bipush hC (nI 9) (by decide +kernel) dX10_pass_249 ?_
                    refine z_dup2 hC dX10_pass_251 rfl rfl ?_
                    refine z_iald hC 1 9 (f := upd (upd (upd f3 6 ((f3 6) + (nI 0))) 8 (((upd f3 6 ((f3 6) + (nI 0))) 8) + (nI 1))) 8 (nI 0)) rfl rfl rfl (by omega) (by decide) dX10_pass_252 ?_
                    refine z_iconst hC (nI 1) (by decide +kernel) dX10_pass_253 ?_
                    refine z_iadd hC dX10_pass_254 ?_
                    refine z_iast hC 1 9 (((upd (upd (upd f3 6 ((f3 6) + (nI 0))) 8 (((upd f3 6 ((f3 6) + (nI 0))) 8) + (nI 1))) 8 (nI 0)) 9) + (nI 1)) (ws' := zMo (zy E) q (va_up h 1 (upd (upd (upd (upd f3 6 ((f3 6) + (nI 0))) 8 (((upd f3 6 ((f3 6) + (nI 0))) 8) + (nI 1))) 8 (nI 0)) 9 (((upd (upd (upd f3 6 ((f3 6) + (nI 0))) 8 (((upd f3 6 ((f3 6) + (nI 0))) 8) + (nI 1))) 8 (nI 0)) 9) + (nI 1))))) rfl rfl rfl rfl (by omega) (by decide) rfl dX10_pass_255 ?_
                    refine z_iload_n hC 2 rfl dX10_pass_256 ?_
                    exact z_iret hC hf rfl rfl (by rw [hp, clF, if_pos c_234]) dX10_pass_257
                · have k_182 : ¬ ((ztm f2) ≤ t) := fun q => c_182 ((nI_leI (by omega) (by omega)).mpr q)
                  refine z_aload_n hC 0 rfl dX10_pass_185 ?_
                  refine z_get hC 0 8 0 (v := .ref (q 1)) rfl rfl iX10_pass_X10 (by decide) (List.mem_of_getElem? (i := 1) (by decide +kernel)) rfl rfl dX10_pass_186 ?_
                  refine z_sipush hC (nI 145) (by decide +kernel) dX10_pass_189 ?_
                  refine z_iload_n hC 3 rfl dX10_pass_192 ?_
                  refine z_iadd hC dX10_pass_193 ?_
                  refine z_top (nI (145 + t)) (nI_add _ _) ?_
                  refine z_bipush hC (nI 60) (by decide +kernel) dX10_pass_194 ?_
                  refine z_iast hC 1 (145 + t) (nI 60) (ws' := zMo (zy E) q (va_up h 1 (upd (ptF f2 t) (145 + t) (nI 60)))) rfl rfl rfl rfl (by omega) (by decide) rfl dX10_pass_196 ?_
                  refine z_iinc hC 3 (nI (t + 1)) rfl z_i1 (by decide) (lv' := [(3, .int (nI (t + 1))), (0, .ref (q 0)), (1, .int (nI 1)), (2, .int (nI 0))]) rfl dX10_pass_197 ?_
                  refine z_goto hC 174 dX10_pass_200 (by decide) ?_
                  refine z_sub [1, 2, 3, 0] (lv' := [(0, .ref (q 0)), (1, .int (nI 1)), (2, .int (nI 0)), (3, .int (nI (t + 1)))]) rfl ?_
                  exact z_cast (ih_174 (t + 1) (by omega) (by omega)) rfl rfl rfl
            refine z_sub [1, 2, 3, 0] (lv' := [(0, .ref (q 0)), (1, .int (nI 1)), (2, .int (nI 0)), (3, .int (nI 0))]) rfl ?_
            exact z_cast (lp_174 ((ztm f2) + 1) 0 (by omega) (by omega)) rfl rfl rfl
          · have k_158 : ¬ (8 ≤ s) := fun q => c_158 ((nI_leI (by omega) (by omega)).mpr q)
            refine z_aload_n hC 0 rfl dX10_pass_161 ?_
            refine z_iload_n hC 3 rfl dX10_pass_162 ?_
            refine z_callV hC (As := [.int (nI s)]) (st := []) (ws2 := zMo (zy E) q (va_up (va_up h 1 (pdF (h 1) s)) 1 (dmF ((va_up h 1 (pdF (h 1) s)) 1) s))) (B := zMo (zy E) q (va_up h 1 (pdF (h 1) s))) (B' := zMo (zy E) q (va_up (va_up h 1 (pdF (h 1) s)) 1 (dmF ((va_up h 1 (pdF (h 1) s)) 1) s))) (r := none) 1 (c_X10_drop q (va_up h 1 (pdF (h 1) s)) s (by omega) (okM_pd hM s (by omega))) gX10_pass_X10_drop (q0 := 0) (ci := 8) (by decide +kernel) rfl rfl rfl ⟨by decide, by decide⟩ [0, 1, 2, 3, 4, 5, 6] rfl (by decide) rfl (Nat.le_of_ble_eq_true rfl) rfl rfl dX10_pass_163 ?_ hkR
            refine z_iinc hC 3 (nI (s + 1)) rfl z_i1 (by decide) (lv' := [(3, .int (nI (s + 1))), (0, .ref (q 0)), (1, .int (nI 1)), (2, .int (nI 0))]) rfl dX10_pass_166 ?_
            refine z_goto hC 155 dX10_pass_169 (by decide) ?_
            refine z_sub [1, 2, 3, 0] (lv' := [(0, .ref (q 0)), (1, .int (nI 1)), (2, .int (nI 0)), (3, .int (nI (s + 1)))]) rfl ?_
            exact z_cast (ih_155 (s + 1) (by omega) (by omega)) rfl rfl rfl
      refine z_sub [2, 3, 1, 0] (lv' := [(0, .ref (q 0)), (1, .int (nI 1)), (2, .int (nI 0)), (3, .int (nI 0))]) rfl ?_
      exact z_cast (lp_155 (8 + 1) 0 (by omega) (by omega)) rfl rfl rfl
    · exact absurd c_11 (by decide +kernel)

set_option maxHeartbeats 4000000 in
set_option maxRecDepth 100000 in
/-- passAll -/
theorem c_X10_passAll_0 {l : Launch} {y : zY} {D : va_G} (q : Nat → Nat) (h : Nat → Nat → Int32) (n : Nat) (hn : n ≤ 200) (hM : okM (h 1)) (hT : okTm (h 1)) : zM l y D yX10_passAll wsX10_passAll 5 114 [.ref (q 0), .int (nI n), .int (nI 0)] (zMo y q h) (zMo y q (va_up h 1 (pn0 (h 1) n))) (some (.int (pnS (h 1) n))) := by
  refine z_start (own := RX10) (cc := cX10_passAll) (maxL := 5) (ret := (some .int)) rfl (by decide +kernel) rfl (Nat.le_of_ble_eq_true rfl) (zMo_fst _ _ _ _) ?_
  intro E hEl hEy hED hC hf
  subst hEl hEy hED
  have hkR : 0 ≤ E.2.2.2.2.2.1.cells ∧ 0 ≤ E.2.2.2.2.2.1.slots := ⟨Nat.zero_le _, Nat.zero_le _⟩
  refine z_cast (lv := [(0, .ref (q 0)), (1, .int (nI n)), (2, .int (nI 0))]) (ws := (zMo (zy E) q h)) (st := []) ?_ rfl rfl rfl
  refine z_iconst hC (nI 0) (by decide +kernel) dX10_passAll_0 ?_
  refine z_istore_n hC (by decide) (lv' := [(3, .int (nI 0)), (0, .ref (q 0)), (1, .int (nI n)), (2, .int (nI 0))]) rfl dX10_passAll_1 ?_
  refine z_iconst hC (nI 0) (by decide +kernel) dX10_passAll_2 ?_
  refine z_istore hC (by decide) (lv' := [(4, .int (nI 0)), (3, .int (nI 0)), (0, .ref (q 0)), (1, .int (nI n)), (2, .int (nI 0))]) rfl dX10_passAll_3 ?_
  have lp_5 : ∀ (d_5 k : Nat), n < k + d_5 → k ≤ n → Z E 0 0 [(0, .ref (q 0)), (1, .int (nI n)), (2, .int (nI 0)), (3, .int (pnS (h 1) k)), (4, .int (nI k))] (zMo (zy E) q (va_up h 1 (pn0 (h 1) k))) 5 [] := by
    intro d_5
    induction d_5 with
    | zero => intro k  q1 q2; omega
    | succ d_5 ih_5 =>
      intro k  q1_5 q2_5 
      refine z_iload hC 4 rfl dX10_passAll_5 ?_
      refine z_iload_n hC 1 rfl dX10_passAll_7 ?_
      refine z_icmp_ge hC 25 dX10_passAll_8 (by decide) (fun c_8 => ?_) (fun c_8 => ?_)
      · have k_8 : n ≤ k := (nI_leI (by omega) (by omega)).mp c_8
        obtain rfl : k = n := by omega
        refine z_iload_n hC 3 rfl dX10_passAll_25 ?_
        exact z_iret hC hf rfl rfl rfl dX10_passAll_26
      · have k_8 : ¬ (n ≤ k) := fun q => c_8 ((nI_leI (by omega) (by omega)).mpr q)
        refine z_iload_n hC 3 rfl dX10_passAll_11 ?_
        refine z_aload_n hC 0 rfl dX10_passAll_12 ?_
        refine z_iload_n hC 2 rfl dX10_passAll_13 ?_
        refine z_callV hC (As := [.int (nI 0)]) (st := [.int (pnS (h 1) k)]) (ws2 := zMo (zy E) q (va_up (va_up h 1 (pn0 (h 1) k)) 1 (paF0 ((va_up h 1 (pn0 (h 1) k)) 1)))) (B := zMo (zy E) q (va_up h 1 (pn0 (h 1) k))) (B' := zMo (zy E) q (va_up (va_up h 1 (pn0 (h 1) k)) 1 (paF0 ((va_up h 1 (pn0 (h 1) k)) 1)))) (r := some (.int (psA ((va_up h 1 (pn0 (h 1) k)) 1) 48))) 1 (c_X10_pass_0 q (va_up h 1 (pn0 (h 1) k)) (ok_pn0 hM hT k).1 (ok_pn0 hM hT k).2) gX10_passAll_X10_pass (q0 := 0) (ci := 8) (by decide +kernel) rfl rfl rfl ⟨by decide, by decide⟩ [0, 1, 2, 3, 4, 5, 6] rfl (by decide) rfl (Nat.le_of_ble_eq_true rfl) rfl rfl dX10_passAll_14 ?_ hkR
        refine z_iadd hC dX10_passAll_17 ?_
        refine z_istore_n hC (by decide) (lv' := [(3, .int ((pnS (h 1) k) + (psA ((va_up h 1 (pn0 (h 1) k)) 1) 48))), (0, .ref (q 0)), (1, .int (nI n)), (2, .int (nI 0)), (4, .int (nI k))]) rfl dX10_passAll_18 ?_
        refine z_iinc hC 4 (nI (k + 1)) rfl z_i1 (by decide) (lv' := [(4, .int (nI (k + 1))), (3, .int ((pnS (h 1) k) + (psA ((va_up h 1 (pn0 (h 1) k)) 1) 48))), (0, .ref (q 0)), (1, .int (nI n)), (2, .int (nI 0))]) rfl dX10_passAll_19 ?_
        refine z_goto hC 5 dX10_passAll_22 (by decide) ?_
        refine z_sub [2, 3, 4, 1, 0] (lv' := [(0, .ref (q 0)), (1, .int (nI n)), (2, .int (nI 0)), (3, .int ((pnS (h 1) k) + (psA ((va_up h 1 (pn0 (h 1) k)) 1) 48))), (4, .int (nI (k + 1)))]) rfl ?_
        exact z_cast (ih_5 (k + 1) (by omega) (by omega)) rfl rfl rfl
  refine z_sub [2, 3, 4, 1, 0] (lv' := [(0, .ref (q 0)), (1, .int (nI n)), (2, .int (nI 0)), (3, .int (nI 0)), (4, .int (nI 0))]) rfl ?_
  exact z_cast (lp_5 (n + 1) 0 (by omega) (by omega)) rfl rfl rfl

set_option maxHeartbeats 4000000 in
set_option maxRecDepth 100000 in
/-- passAll -/
theorem c_X10_passAll_1 {l : Launch} {y : zY} {D : va_G} (q : Nat → Nat) (h : Nat → Nat → Int32) (n : Nat) (hn : n ≤ 200) (hM : okM (h 1)) (hT : okTm (h 1)) : zM l y D yX10_passAll wsX10_passAll 5 114 [.ref (q 0), .int (nI n), .int (nI 1)] (zMo y q h) (zMo y q (va_up h 1 (pn1 (h 1) n))) (some (.int (pnZ n))) := by
  refine z_start (own := RX10) (cc := cX10_passAll) (maxL := 5) (ret := (some .int)) rfl (by decide +kernel) rfl (Nat.le_of_ble_eq_true rfl) (zMo_fst _ _ _ _) ?_
  intro E hEl hEy hED hC hf
  subst hEl hEy hED
  have hkR : 0 ≤ E.2.2.2.2.2.1.cells ∧ 0 ≤ E.2.2.2.2.2.1.slots := ⟨Nat.zero_le _, Nat.zero_le _⟩
  refine z_cast (lv := [(0, .ref (q 0)), (1, .int (nI n)), (2, .int (nI 1))]) (ws := (zMo (zy E) q h)) (st := []) ?_ rfl rfl rfl
  refine z_iconst hC (nI 0) (by decide +kernel) dX10_passAll_0 ?_
  refine z_istore_n hC (by decide) (lv' := [(3, .int (nI 0)), (0, .ref (q 0)), (1, .int (nI n)), (2, .int (nI 1))]) rfl dX10_passAll_1 ?_
  refine z_iconst hC (nI 0) (by decide +kernel) dX10_passAll_2 ?_
  refine z_istore hC (by decide) (lv' := [(4, .int (nI 0)), (3, .int (nI 0)), (0, .ref (q 0)), (1, .int (nI n)), (2, .int (nI 1))]) rfl dX10_passAll_3 ?_
  have lp_5 : ∀ (d_5 k : Nat), n < k + d_5 → k ≤ n → Z E 0 0 [(0, .ref (q 0)), (1, .int (nI n)), (2, .int (nI 1)), (3, .int (pnZ k)), (4, .int (nI k))] (zMo (zy E) q (va_up h 1 (pn1 (h 1) k))) 5 [] := by
    intro d_5
    induction d_5 with
    | zero => intro k  q1 q2; omega
    | succ d_5 ih_5 =>
      intro k  q1_5 q2_5 
      refine z_iload hC 4 rfl dX10_passAll_5 ?_
      refine z_iload_n hC 1 rfl dX10_passAll_7 ?_
      refine z_icmp_ge hC 25 dX10_passAll_8 (by decide) (fun c_8 => ?_) (fun c_8 => ?_)
      · have k_8 : n ≤ k := (nI_leI (by omega) (by omega)).mp c_8
        obtain rfl : k = n := by omega
        refine z_iload_n hC 3 rfl dX10_passAll_25 ?_
        exact z_iret hC hf rfl rfl rfl dX10_passAll_26
      · have k_8 : ¬ (n ≤ k) := fun q => c_8 ((nI_leI (by omega) (by omega)).mpr q)
        refine z_iload_n hC 3 rfl dX10_passAll_11 ?_
        refine z_aload_n hC 0 rfl dX10_passAll_12 ?_
        refine z_iload_n hC 2 rfl dX10_passAll_13 ?_
        refine z_callV hC (As := [.int (nI 1)]) (st := [.int (pnZ k)]) (ws2 := zMo (zy E) q (va_up (va_up h 1 (pn1 (h 1) k)) 1 (paF1 ((va_up h 1 (pn1 (h 1) k)) 1)))) (B := zMo (zy E) q (va_up h 1 (pn1 (h 1) k))) (B' := zMo (zy E) q (va_up (va_up h 1 (pn1 (h 1) k)) 1 (paF1 ((va_up h 1 (pn1 (h 1) k)) 1)))) (r := some (.int (nI 0))) 1 (c_X10_pass_1 q (va_up h 1 (pn1 (h 1) k)) (ok_pn1 hM hT k).1 (ok_pn1 hM hT k).2) gX10_passAll_X10_pass (q0 := 0) (ci := 8) (by decide +kernel) rfl rfl rfl ⟨by decide, by decide⟩ [0, 1, 2, 3, 4, 5, 6] rfl (by decide) rfl (Nat.le_of_ble_eq_true rfl) rfl rfl dX10_passAll_14 ?_ hkR
        refine z_iadd hC dX10_passAll_17 ?_
        refine z_istore_n hC (by decide) (lv' := [(3, .int ((pnZ k) + (nI 0))), (0, .ref (q 0)), (1, .int (nI n)), (2, .int (nI 1)), (4, .int (nI k))]) rfl dX10_passAll_18 ?_
        refine z_iinc hC 4 (nI (k + 1)) rfl z_i1 (by decide) (lv' := [(4, .int (nI (k + 1))), (3, .int ((pnZ k) + (nI 0))), (0, .ref (q 0)), (1, .int (nI n)), (2, .int (nI 1))]) rfl dX10_passAll_19 ?_
        refine z_goto hC 5 dX10_passAll_22 (by decide) ?_
        refine z_sub [2, 3, 4, 1, 0] (lv' := [(0, .ref (q 0)), (1, .int (nI n)), (2, .int (nI 1)), (3, .int ((pnZ k) + (nI 0))), (4, .int (nI (k + 1)))]) rfl ?_
        exact z_cast (ih_5 (k + 1) (by omega) (by omega)) rfl rfl rfl
  refine z_sub [2, 3, 4, 1, 0] (lv' := [(0, .ref (q 0)), (1, .int (nI n)), (2, .int (nI 1)), (3, .int (nI 0)), (4, .int (nI 0))]) rfl ?_
  exact z_cast (lp_5 (n + 1) 0 (by omega) (by omega)) rfl rfl rfl
