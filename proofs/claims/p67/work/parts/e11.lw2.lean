variable {sc : SC}
/-! ===== the deeds ===== -/
/-- what a deed makes: a tree that is one, the row like it, the elements not far off; nothing remembered, or the tree before it -/
def Deed (NB : Int) (n c0 : Nat) (T : TS) (q : Nat) (G : Nat → TS) (S : ZS) (f : Nat → Int32) (n' : Nat) (S' : ZS) (T' : TS) (q' : Nat) (G' : Nat → TS) (f' : Nat → Int32) (chg : Int32) : Prop :=
  (∃ w', Rel n' T' w') ∧ (∀ i, i < n' → tva T' i = f' i) ∧ (∀ i, i < n' → bN (NB + 1024) (tva T' i)) ∧ ((chg = 0 ∧ S' = S ∧ n' = n ∧ T' = T ∧ q' = q ∧ G' = G ∧ f' = f) ∨ (chg = 1 ∧ S' = remS c0 S ∧ q' = remR c0 q ∧ G' = remG c0 q G T))
theorem tRead_keep (k : Nat) (s : TS) : tu (tRead k s) = tu s ∧ ta (tRead k s) = ta s := by
  unfold tRead
  by_cases c : (0 ≤ tF s k ∧ tF s k < 40) ∧ tF s k = tL s k
  · rw [if_pos c]; exact ⟨rfl, rfl⟩
  · rw [if_neg c]; exact ⟨rfl, rfl⟩
theorem tReads_keep (U : TS) : tu (tReads U) = tu U ∧ ta (tReads U) = ta U := by
  have hz : tReads U = zup tRead 127 1 U := rfl
  rw [hz]
  exact ⟨zup_keep tu (fun k s => (tRead_keep k s).1) 127 1 U, zup_keep ta (fun k s => (tRead_keep k s).2) 127 1 U⟩
theorem upd_cnt (T : TS) (f t A B : Int32) : tu (tUpdate T f t A B).1 = tu T + 1 ∧ ta (tUpdate T f t A B).1 = ta T + nI (tUpdate T f t A B).2 := by
  obtain ⟨T1, c, e1, e2, -⟩ := sv_update T f t A B
  rw [e1]
  refine ⟨?_, ?_⟩
  · dsimp only
    rw [(tReads_keep _).1]
    show tu T1 + 1 = _
    rw [e2.2.1]
  · dsimp only
    rw [(tReads_keep _).2]
    show ta T1 + nI c = _
    rw [e2.2.2.1]
theorem v_ok {v : Int32} (h : bN 1024 v) : -9999 ≤ v ∧ v ≤ 9999 := by
  have e1 : (-9999 : Int32).toInt = -9999 := by decide
  have e2 : (9999 : Int32).toInt = 9999 := by decide
  rw [Int32.le_iff_toInt_le, Int32.le_iff_toInt_le, e1, e2]
  obtain ⟨h1, h2⟩ := h
  omega
/-- a part of a row is changed -/
def upF (op : Int32 → Int32) (a : Nat) (f : Nat → Int32) (i : Nat) : Nat → Int32 := fun x => if a ≤ x ∧ x < i then op (f x) else f x
theorem upF_0 (op : Int32 → Int32) (a : Nat) (f : Nat → Int32) : upF op a f a = f := funext fun x => if_neg (by omega)
theorem upF_at (op : Int32 → Int32) {a i : Nat} (f : Nat → Int32) : upF op a f i i = f i := if_neg (by omega)
theorem upF_s (op : Int32 → Int32) {a i : Nat} (f : Nat → Int32) (h : a ≤ i) : upd (upF op a f i) i (op (f i)) = upF op a f (i + 1) := by
  funext x
  show (if x = i then op (f i) else if a ≤ x ∧ x < i then op (f x) else f x) = if a ≤ x ∧ x < i + 1 then op (f x) else f x
  by_cases c : x = i
  · rw [if_pos c, if_pos (by omega), c]
  · rw [if_neg c]
    by_cases c2 : a ≤ x ∧ x < i
    · rw [if_pos c2, if_pos (by omega)]
    · rw [if_neg c2, if_neg (by omega)]
theorem set_at {gs : List (Nat → Int32)} {p : Nat} {f g : Nat → Int32} (h : gs[p]? = some f) : (gs.set p g)[p]? = some g := by
  have hl := (List.getElem?_eq_some_iff.mp h).1
  rw [List.getElem?_set_self hl]
theorem set_id {gs : List (Nat → Int32)} {p : Nat} {f : Nat → Int32} (h : gs[p]? = some f) : gs.set p f = gs := by
  apply List.ext_getElem?
  intro i
  by_cases c : p = i
  · subst c
    rw [set_at h, h]
  · rw [List.getElem?_set_ne c]
section LW3
variable {S X R : ZS} {T : TS} {P : ZS} {TU : TS} {q : Nat} {G : Nat → TS} {TN : TS} {gs : List (Nat → Int32)} {n k p c0 a b l : Nat} {v x6 x7 : Int32} {w f : Nat → Int32} {NB : Int}
variable {mc ms : Nat} {r : zR} {h' : List zO}
variable {S' : ZS} {T' : TS} {q' : Nat} {G' : Nat → TS}
theorem l_asg {t : Int32} {T0 : TS} (hab : a ≤ b) (hb40 : b < 40) (hp : gs[p]? = some f) (K : Z sc yL_law cL_law 22 (some .boolean) 5 mc ms 275 [some (.ref (1000202)), some (.ref (0)), some (.int (nI n)), some (.ref (115 + p)), some (.int (nI k)), some (.int (cw sc k)), some (.int (x6)), some (.int (x7)), some (.int (nI a)), some (.int (nI b)), some (.int (v)), some (.int (nI c0)), some (.int (nI n)), some (.int (tu T)), some (.int (tp T)), some (.int (ta T)), some (.long (gS n S X R T)), none, some (.ref (115 + l)), some (.int (1)), some (.int (t)), some (.int (nI (b + 1)))] [] (lwH S' X R T' P TU q' G' TN (gs.set p (upF (fun _ => v) a f (b + 1)))) r h') : ∀ m i, i + m = b + 1 → a ≤ i →
    Z sc yL_law cL_law 22 (some .boolean) 5 mc ms 256 [some (.ref (1000202)), some (.ref (0)), some (.int (nI n)), some (.ref (115 + p)), some (.int (nI k)), some (.int (cw sc k)), some (.int (x6)), some (.int (x7)), some (.int (nI a)), some (.int (nI b)), some (.int (v)), some (.int (nI c0)), some (.int (nI n)), some (.int (tu T)), some (.int (tp T)), some (.int (ta T)), some (.long (gS n S X R T)), none, some (.ref (115 + l)), some (.int (1)), some (.int (t)), some (.int (nI i))] [] (lwH S' X R T' P TU q' G' TN (gs.set p (upF (fun _ => v) a f i))) r h' := by
  intro m
  induction m with
  | zero =>
    intro i hi ha
    have : i = b + 1 := by omega
    subst this
    refine z_iload_21 dL_law_256 ?_
    refine z_iload_9 dL_law_258 ?_
    refine z_icmp_gt_t (tgt := 275) dL_law_260 (by decide) ((nI_ltI (by omega) (by omega)).mpr (by omega)) ?_
    exact K
  | succ m ih =>
    intro i hi ha
    refine z_iload_21 dL_law_256 ?_
    refine z_iload_9 dL_law_258 ?_
    refine z_icmp_gt_f 275 dL_law_260 (by decide) (fun z => by have := (nI_ltI (by omega) (by omega)).mp z; omega) ?_
    refine z_aload_3 dL_law_263 ?_
    refine z_iload_21 dL_law_264 ?_
    refine z_iload_10 dL_law_266 ?_
    refine z_iastN (n := 40) (k := i) (f := upF (fun _ => v) a f i) dL_law_268 (lwH_at (set_at hp)) (by omega) (by decide) ?_
    refine Z.heap (h2 := lwH S' X R T' P TU q' G' TN (gs.set p (upF (fun _ => v) a f (i + 1)))) (by rw [lwH_set, List.set_set, ← upF_s (fun _ => v) f ha]) ?_
    refine z_iinc_21 (v := nI (i + 1)) dL_law_269 (zinc _) rfl (by decide) ?_
    refine z_goto (tgt := 256) dL_law_272 (by decide) ?_
    exact ih (i + 1) (by omega) (by omega)
theorem l_addL {t : Int32} {T0 : TS} (hab : a ≤ b) (hb40 : b < 40) (hp : gs[p]? = some f) (K : Z sc yL_law cL_law 22 (some .boolean) 5 mc ms 338 [some (.ref (1000202)), some (.ref (0)), some (.int (nI n)), some (.ref (115 + p)), some (.int (nI k)), some (.int (cw sc k)), some (.int (x6)), some (.int (x7)), some (.int (nI a)), some (.int (nI b)), some (.int (v)), some (.int (nI c0)), some (.int (nI n)), some (.int (tu T)), some (.int (tp T)), some (.int (ta T)), some (.long (gS n S X R T)), none, some (.ref (115 + l)), some (.int (1)), some (.int (t)), some (.int (nI (b + 1)))] [] (lwH S' X R T' P TU q' G' TN (gs.set p (upF (fun x => x + v) a f (b + 1)))) r h') : ∀ m i, i + m = b + 1 → a ≤ i →
    Z sc yL_law cL_law 22 (some .boolean) 5 mc ms 316 [some (.ref (1000202)), some (.ref (0)), some (.int (nI n)), some (.ref (115 + p)), some (.int (nI k)), some (.int (cw sc k)), some (.int (x6)), some (.int (x7)), some (.int (nI a)), some (.int (nI b)), some (.int (v)), some (.int (nI c0)), some (.int (nI n)), some (.int (tu T)), some (.int (tp T)), some (.int (ta T)), some (.long (gS n S X R T)), none, some (.ref (115 + l)), some (.int (1)), some (.int (t)), some (.int (nI i))] [] (lwH S' X R T' P TU q' G' TN (gs.set p (upF (fun x => x + v) a f i))) r h' := by
  intro m
  induction m with
  | zero =>
    intro i hi ha
    have : i = b + 1 := by omega
    subst this
    refine z_iload_21 dL_law_316 ?_
    refine z_iload_9 dL_law_318 ?_
    refine z_icmp_gt_t (tgt := 338) dL_law_320 (by decide) ((nI_ltI (by omega) (by omega)).mpr (by omega)) ?_
    exact K
  | succ m ih =>
    intro i hi ha
    refine z_iload_21 dL_law_316 ?_
    refine z_iload_9 dL_law_318 ?_
    refine z_icmp_gt_f 338 dL_law_320 (by decide) (fun z => by have := (nI_ltI (by omega) (by omega)).mp z; omega) ?_
    refine z_aload_3 dL_law_323 ?_
    refine z_iload_21 dL_law_324 ?_
    refine z_dup2 dL_law_326 rfl rfl ?_
    refine z_ialdN (n := 40) (k := i) (f := upF (fun x => x + v) a f i) dL_law_327 (lwH_at (set_at hp)) (by omega) (by decide) ?_
    refine z_topi (upF_at _ f) ?_
    refine z_iload_10 dL_law_328 ?_
    refine z_iadd dL_law_330 ?_
    refine z_iastN (n := 40) (k := i) (f := upF (fun x => x + v) a f i) dL_law_331 (lwH_at (set_at hp)) (by omega) (by decide) ?_
    refine Z.heap (h2 := lwH S' X R T' P TU q' G' TN (gs.set p (upF (fun x => x + v) a f (i + 1)))) (by rw [lwH_set, List.set_set, ← upF_s (fun x => x + v) f ha]) ?_
    refine z_iinc_21 (v := nI (i + 1)) dL_law_332 (zinc _) rfl (by decide) ?_
    refine z_goto (tgt := 316) dL_law_335 (by decide) ?_
    exact ih (i + 1) (by omega) (by omega)
theorem l_negL {t : Int32} {T0 : TS} (hab : a ≤ b) (hb40 : b < 40) (hp : gs[p]? = some f) (K : Z sc yL_law cL_law 22 (some .boolean) 5 mc ms 399 [some (.ref (1000202)), some (.ref (0)), some (.int (nI n)), some (.ref (115 + p)), some (.int (nI k)), some (.int (cw sc k)), some (.int (x6)), some (.int (x7)), some (.int (nI a)), some (.int (nI b)), some (.int (v)), some (.int (nI c0)), some (.int (nI n)), some (.int (tu T)), some (.int (tp T)), some (.int (ta T)), some (.long (gS n S X R T)), none, some (.ref (115 + l)), some (.int (1)), some (.int (t)), some (.int (nI (b + 1)))] [] (lwH S' X R T' P TU q' G' TN (gs.set p (upF (fun x => -x) a f (b + 1)))) r h') : ∀ m i, i + m = b + 1 → a ≤ i →
    Z sc yL_law cL_law 22 (some .boolean) 5 mc ms 377 [some (.ref (1000202)), some (.ref (0)), some (.int (nI n)), some (.ref (115 + p)), some (.int (nI k)), some (.int (cw sc k)), some (.int (x6)), some (.int (x7)), some (.int (nI a)), some (.int (nI b)), some (.int (v)), some (.int (nI c0)), some (.int (nI n)), some (.int (tu T)), some (.int (tp T)), some (.int (ta T)), some (.long (gS n S X R T)), none, some (.ref (115 + l)), some (.int (1)), some (.int (t)), some (.int (nI i))] [] (lwH S' X R T' P TU q' G' TN (gs.set p (upF (fun x => -x) a f i))) r h' := by
  intro m
  induction m with
  | zero =>
    intro i hi ha
    have : i = b + 1 := by omega
    subst this
    refine z_iload_21 dL_law_377 ?_
    refine z_iload_9 dL_law_379 ?_
    refine z_icmp_gt_t (tgt := 399) dL_law_381 (by decide) ((nI_ltI (by omega) (by omega)).mpr (by omega)) ?_
    exact K
  | succ m ih =>
    intro i hi ha
    refine z_iload_21 dL_law_377 ?_
    refine z_iload_9 dL_law_379 ?_
    refine z_icmp_gt_f 399 dL_law_381 (by decide) (fun z => by have := (nI_ltI (by omega) (by omega)).mp z; omega) ?_
    refine z_aload_3 dL_law_384 ?_
    refine z_iload_21 dL_law_385 ?_
    refine z_aload_3 dL_law_387 ?_
    refine z_iload_21 dL_law_388 ?_
    refine z_ialdN (n := 40) (k := i) (f := upF (fun x => -x) a f i) dL_law_390 (lwH_at (set_at hp)) (by omega) (by decide) ?_
    refine z_topi (upF_at _ f) ?_
    refine z_ineg dL_law_391 ?_
    refine z_iastN (n := 40) (k := i) (f := upF (fun x => -x) a f i) dL_law_392 (lwH_at (set_at hp)) (by omega) (by decide) ?_
    refine Z.heap (h2 := lwH S' X R T' P TU q' G' TN (gs.set p (upF (fun x => -x) a f (i + 1)))) (by rw [lwH_set, List.set_set, ← upF_s (fun x => -x) f ha]) ?_
    refine z_iinc_21 (v := nI (i + 1)) dL_law_393 (zinc _) rfl (by decide) ?_
    refine z_goto (tgt := 377) dL_law_396 (by decide) ?_
    exact ih (i + 1) (by omega) (by omega)
end LW3
section LW4
variable {S X R : ZS} {T : TS} {P : ZS} {TU : TS} {q : Nat} {G : Nat → TS} {TN : TS} {gs : List (Nat → Int32)} {n k p c0 a b l : Nat} {v x6 x7 : Int32} {w f : Nat → Int32} {NB : Int}
theorem d_assign (h : Rel n T w) (hc : S.1 1 = nI c0) (h8 : c0 ≤ 8) (hab : a ≤ b) (hbn : b < n) (hv : bN 1024 v) (hp : gs[p]? = some f) (hm : ∀ i, i < n → tva T i = f i) (hb : ∀ i, i < n → bN NB (tva T i)) (h0 : 0 ≤ NB) (hNB : NB ≤ 900000) : ∃ (n' : Nat) (S' : ZS) (T' : TS) (q' : Nat) (G' : Nat → TS) (f' : Nat → Int32) (chg : Int32), Deed NB n c0 T q G S f n' S' T' q' G' f' chg ∧ ∀ {mc ms : Nat} {r : zR} {h' : List zO},
      (∀ x20 x21 : Option Value, Z sc yL_law cL_law 22 (some .boolean) 5 mc ms 626 [some (.ref (1000202)), some (.ref (0)), some (.int (nI n')), some (.ref (115 + p)), some (.int (nI k)), some (.int (cw sc k)), some (.int (x6)), some (.int (x7)), some (.int (nI a)), some (.int (nI b)), some (.int (v)), some (.int (nI c0)), some (.int (nI n)), some (.int (tu T)), some (.int (tp T)), some (.int (ta T)), some (.long (gS n S X R T)), none, some (.ref (115 + l)), some (.int (chg)), x20, x21] [] (lwH S' X R T' P TU q' G' TN (gs.set p f')) r h') →
      Z sc yL_law cL_law 22 (some .boolean) 5 mc ms 240 [some (.ref (1000202)), some (.ref (0)), some (.int (nI n)), some (.ref (115 + p)), some (.int (nI k)), some (.int (cw sc k)), some (.int (x6)), some (.int (x7)), some (.int (nI a)), some (.int (nI b)), some (.int (v)), some (.int (nI c0)), some (.int (nI n)), some (.int (tu T)), some (.int (tp T)), some (.int (ta T)), some (.long (gS n S X R T)), none, some (.ref (115 + l)), some (.int (1)), none, none] [] (lwH S X R T P TU q G TN gs) r h' := by
  have h1 := h.1.1.1
  have h40 := h.1.1.2
  have hn := h.1.2.1
  have hvv : -9999 ≤ v ∧ v ≤ 9999 := v_ok hv
  obtain ⟨w', r1, r2, r3⟩ := RUb (A := 0) (B := v) (M := 1024) h hbn hab (Or.inr (Or.inl rfl)) hb hv h0 (by decide) (by omega)
  obtain ⟨u1, u2⟩ := upd_cnt T (nI a) (nI b) (0) (v)
  have kc := k_f_assign (sc := sc) S X R T P TU q G TN c0 hc h8 n a b hn h40 hab hbn v hvv
  generalize tUpdate T (nI a) (nI b) (0) (v) = Uc at r1 r2 r3 u1 u2 kc
  have hn' := r1.1.2.1
  refine ⟨n, remS c0 S, Uc.1, remR c0 q, remG c0 q G T, upF (fun _ => v) a f (b + 1), 1, ⟨⟨w', r1⟩, fun i hi => ?_, r3, Or.inr ⟨rfl, rfl, rfl, rfl⟩⟩, ?_⟩
  · rw [r2 i hi, hm i hi]
    show _ = if a ≤ i ∧ i < b + 1 then (fun _ => v) (f i) else f i
    by_cases c : a ≤ i ∧ i ≤ b
    · rw [if_pos c, if_pos (by omega)]
      rw [Int32.zero_mul, Int32.zero_add]
    · rw [if_neg c, if_neg (by omega)]
  intro mc ms r h' K
  refine z_aload_1 dL_law_240 ?_
  refine z_iload_8 dL_law_241 ?_
  refine z_iload_9 dL_law_243 ?_
  refine z_iload_10 dL_law_245 ?_
  refine z_fl (As := [.int (nI a), .int (nI b), .int v]) kc dL_law_247 zy_X6_assign zm_L_95 rfl rfl (Nat.le_of_ble_eq_true rfl) (by decide) (by decide) ?_
  refine z_istore_20 dL_law_250 rfl (by decide) ?_
  refine z_iload_8 dL_law_252 ?_
  refine z_istore_21 dL_law_254 rfl (by decide) ?_
  refine Z.heap (h2 := lwH (remS c0 S) X R Uc.1 P TU (remR c0 q) (remG c0 q G T) TN (gs.set p (upF (fun _ => v) a f a))) (by rw [upF_0, set_id hp]) ?_
  refine l_asg (T0 := T) hab (by omega) hp ?_ (b + 1 - a) a (by omega) (Nat.le_refl _)
  refine z_iload_20 dL_law_275 ?_
  refine z_aload_1 dL_law_277 ?_
  refine z_ql (As := []) (v := .int (ta Uc.1)) (k_c_6_appliedCount n (remS c0 S) X R Uc.1 hn' h40) dL_law_278 zy_X6_appliedCount zm_L_37 rfl rfl (Nat.le_of_ble_eq_true rfl) (by decide) (by decide) ?_
  refine z_iload_15 dL_law_281 ?_
  refine z_isub dL_law_283 ?_
  refine z_icmp_ne_f 298 dL_law_284 (by decide) (by rw [u2, Int32.add_comm, Int32.add_sub_cancel]) ?_
  refine z_aload_1 dL_law_287 ?_
  refine z_ql (As := []) (v := .int (tu Uc.1)) (k_c_6_updateCount n (remS c0 S) X R Uc.1 hn' h40) dL_law_288 zy_X6_updateCount zm_L_27 rfl rfl (Nat.le_of_ble_eq_true rfl) (by decide) (by decide) ?_
  refine z_iload_13 dL_law_291 ?_
  refine z_iconst (v := 1) dL_law_293 rfl ?_
  refine z_iadd dL_law_294 ?_
  refine z_icmp_eq_t (tgt := 626) dL_law_295 (by decide) u1 ?_
  exact K _ _
theorem d_add (h : Rel n T w) (hc : S.1 1 = nI c0) (h8 : c0 ≤ 8) (hab : a ≤ b) (hbn : b < n) (hv : bN 1024 v) (hp : gs[p]? = some f) (hm : ∀ i, i < n → tva T i = f i) (hb : ∀ i, i < n → bN NB (tva T i)) (h0 : 0 ≤ NB) (hNB : NB ≤ 900000) : ∃ (n' : Nat) (S' : ZS) (T' : TS) (q' : Nat) (G' : Nat → TS) (f' : Nat → Int32) (chg : Int32), Deed NB n c0 T q G S f n' S' T' q' G' f' chg ∧ ∀ {mc ms : Nat} {r : zR} {h' : List zO},
      (∀ x20 x21 : Option Value, Z sc yL_law cL_law 22 (some .boolean) 5 mc ms 626 [some (.ref (1000202)), some (.ref (0)), some (.int (nI n')), some (.ref (115 + p)), some (.int (nI k)), some (.int (cw sc k)), some (.int (x6)), some (.int (x7)), some (.int (nI a)), some (.int (nI b)), some (.int (v)), some (.int (nI c0)), some (.int (nI n)), some (.int (tu T)), some (.int (tp T)), some (.int (ta T)), some (.long (gS n S X R T)), none, some (.ref (115 + l)), some (.int (chg)), x20, x21] [] (lwH S' X R T' P TU q' G' TN (gs.set p f')) r h') →
      Z sc yL_law cL_law 22 (some .boolean) 5 mc ms 300 [some (.ref (1000202)), some (.ref (0)), some (.int (nI n)), some (.ref (115 + p)), some (.int (nI k)), some (.int (cw sc k)), some (.int (x6)), some (.int (x7)), some (.int (nI a)), some (.int (nI b)), some (.int (v)), some (.int (nI c0)), some (.int (nI n)), some (.int (tu T)), some (.int (tp T)), some (.int (ta T)), some (.long (gS n S X R T)), none, some (.ref (115 + l)), some (.int (1)), none, none] [] (lwH S X R T P TU q G TN gs) r h' := by
  have h1 := h.1.1.1
  have h40 := h.1.1.2
  have hn := h.1.2.1
  have hvv : -9999 ≤ v ∧ v ≤ 9999 := v_ok hv
  obtain ⟨w', r1, r2, r3⟩ := RUb (A := 1) (B := v) (M := 1024) h hbn hab (Or.inr (Or.inr rfl)) hb hv h0 (by decide) (by omega)
  obtain ⟨u1, u2⟩ := upd_cnt T (nI a) (nI b) (1) (v)
  have hcan : tCan T a b v := canN hb hv hab hbn h0 (by decide) (by omega)
  have kc := k_f_add (sc := sc) S X R T P TU q G TN c0 hc h8 n a b hn h40 hab hbn v hvv hcan
  generalize tUpdate T (nI a) (nI b) (1) (v) = Uc at r1 r2 r3 u1 u2 kc
  have hn' := r1.1.2.1
  refine ⟨n, remS c0 S, Uc.1, remR c0 q, remG c0 q G T, upF (fun x => x + v) a f (b + 1), 1, ⟨⟨w', r1⟩, fun i hi => ?_, r3, Or.inr ⟨rfl, rfl, rfl, rfl⟩⟩, ?_⟩
  · rw [r2 i hi, hm i hi]
    show _ = if a ≤ i ∧ i < b + 1 then (fun x => x + v) (f i) else f i
    by_cases c : a ≤ i ∧ i ≤ b
    · rw [if_pos c, if_pos (by omega)]
      rw [Int32.one_mul]
    · rw [if_neg c, if_neg (by omega)]
  intro mc ms r h' K
  refine z_aload_1 dL_law_300 ?_
  refine z_iload_8 dL_law_301 ?_
  refine z_iload_9 dL_law_303 ?_
  refine z_iload_10 dL_law_305 ?_
  refine z_fl (As := [.int (nI a), .int (nI b), .int v]) kc dL_law_307 zy_X6_add zm_L_99 rfl rfl (Nat.le_of_ble_eq_true rfl) (by decide) (by decide) ?_
  refine z_istore_20 dL_law_310 rfl (by decide) ?_
  refine z_iload_8 dL_law_312 ?_
  refine z_istore_21 dL_law_314 rfl (by decide) ?_
  refine Z.heap (h2 := lwH (remS c0 S) X R Uc.1 P TU (remR c0 q) (remG c0 q G T) TN (gs.set p (upF (fun x => x + v) a f a))) (by rw [upF_0, set_id hp]) ?_
  refine l_addL (T0 := T) hab (by omega) hp ?_ (b + 1 - a) a (by omega) (Nat.le_refl _)
  refine z_iload_20 dL_law_338 ?_
  refine z_aload_1 dL_law_340 ?_
  refine z_ql (As := []) (v := .int (ta Uc.1)) (k_c_6_appliedCount n (remS c0 S) X R Uc.1 hn' h40) dL_law_341 zy_X6_appliedCount zm_L_37 rfl rfl (Nat.le_of_ble_eq_true rfl) (by decide) (by decide) ?_
  refine z_iload_15 dL_law_344 ?_
  refine z_isub dL_law_346 ?_
  refine z_icmp_ne_f 361 dL_law_347 (by decide) (by rw [u2, Int32.add_comm, Int32.add_sub_cancel]) ?_
  refine z_aload_1 dL_law_350 ?_
  refine z_ql (As := []) (v := .int (tu Uc.1)) (k_c_6_updateCount n (remS c0 S) X R Uc.1 hn' h40) dL_law_351 zy_X6_updateCount zm_L_27 rfl rfl (Nat.le_of_ble_eq_true rfl) (by decide) (by decide) ?_
  refine z_iload_13 dL_law_354 ?_
  refine z_iconst (v := 1) dL_law_356 rfl ?_
  refine z_iadd dL_law_357 ?_
  refine z_icmp_eq_t (tgt := 626) dL_law_358 (by decide) u1 ?_
  exact K _ _
theorem d_negate (h : Rel n T w) (hc : S.1 1 = nI c0) (h8 : c0 ≤ 8) (hab : a ≤ b) (hbn : b < n) (hv : bN 1024 v) (hp : gs[p]? = some f) (hm : ∀ i, i < n → tva T i = f i) (hb : ∀ i, i < n → bN NB (tva T i)) (h0 : 0 ≤ NB) (hNB : NB ≤ 900000) : ∃ (n' : Nat) (S' : ZS) (T' : TS) (q' : Nat) (G' : Nat → TS) (f' : Nat → Int32) (chg : Int32), Deed NB n c0 T q G S f n' S' T' q' G' f' chg ∧ ∀ {mc ms : Nat} {r : zR} {h' : List zO},
      (∀ x20 x21 : Option Value, Z sc yL_law cL_law 22 (some .boolean) 5 mc ms 626 [some (.ref (1000202)), some (.ref (0)), some (.int (nI n')), some (.ref (115 + p)), some (.int (nI k)), some (.int (cw sc k)), some (.int (x6)), some (.int (x7)), some (.int (nI a)), some (.int (nI b)), some (.int (v)), some (.int (nI c0)), some (.int (nI n)), some (.int (tu T)), some (.int (tp T)), some (.int (ta T)), some (.long (gS n S X R T)), none, some (.ref (115 + l)), some (.int (chg)), x20, x21] [] (lwH S' X R T' P TU q' G' TN (gs.set p f')) r h') →
      Z sc yL_law cL_law 22 (some .boolean) 5 mc ms 363 [some (.ref (1000202)), some (.ref (0)), some (.int (nI n)), some (.ref (115 + p)), some (.int (nI k)), some (.int (cw sc k)), some (.int (x6)), some (.int (x7)), some (.int (nI a)), some (.int (nI b)), some (.int (v)), some (.int (nI c0)), some (.int (nI n)), some (.int (tu T)), some (.int (tp T)), some (.int (ta T)), some (.long (gS n S X R T)), none, some (.ref (115 + l)), some (.int (1)), none, none] [] (lwH S X R T P TU q G TN gs) r h' := by
  have h1 := h.1.1.1
  have h40 := h.1.1.2
  have hn := h.1.2.1
  have hvv : -9999 ≤ v ∧ v ≤ 9999 := v_ok hv
  obtain ⟨w', r1, r2, r3⟩ := RUb (A := -1) (B := 0) (M := 1024) h hbn hab (Or.inl rfl) hb (show bN 1024 0 from ⟨by decide, by decide⟩) h0 (by decide) (by omega)
  obtain ⟨u1, u2⟩ := upd_cnt T (nI a) (nI b) (-1) (0)
  have kc := k_f_negate (sc := sc) S X R T P TU q G TN c0 hc h8 n a b hn h40 hab hbn
  generalize tUpdate T (nI a) (nI b) (-1) (0) = Uc at r1 r2 r3 u1 u2 kc
  have hn' := r1.1.2.1
  refine ⟨n, remS c0 S, Uc.1, remR c0 q, remG c0 q G T, upF (fun x => -x) a f (b + 1), 1, ⟨⟨w', r1⟩, fun i hi => ?_, r3, Or.inr ⟨rfl, rfl, rfl, rfl⟩⟩, ?_⟩
  · rw [r2 i hi, hm i hi]
    show _ = if a ≤ i ∧ i < b + 1 then (fun x => -x) (f i) else f i
    by_cases c : a ≤ i ∧ i ≤ b
    · rw [if_pos c, if_pos (by omega)]
      rw [i_m1, Int32.add_zero]
    · rw [if_neg c, if_neg (by omega)]
  intro mc ms r h' K
  refine z_aload_1 dL_law_363 ?_
  refine z_iload_8 dL_law_364 ?_
  refine z_iload_9 dL_law_366 ?_
  refine z_fl (As := [.int (nI a), .int (nI b)]) kc dL_law_368 zy_X6_negate zm_L_102 rfl rfl (Nat.le_of_ble_eq_true rfl) (by decide) (by decide) ?_
  refine z_istore_20 dL_law_371 rfl (by decide) ?_
  refine z_iload_8 dL_law_373 ?_
  refine z_istore_21 dL_law_375 rfl (by decide) ?_
  refine Z.heap (h2 := lwH (remS c0 S) X R Uc.1 P TU (remR c0 q) (remG c0 q G T) TN (gs.set p (upF (fun x => -x) a f a))) (by rw [upF_0, set_id hp]) ?_
  refine l_negL (T0 := T) hab (by omega) hp ?_ (b + 1 - a) a (by omega) (Nat.le_refl _)
  refine z_iload_20 dL_law_399 ?_
  refine z_aload_1 dL_law_401 ?_
  refine z_ql (As := []) (v := .int (ta Uc.1)) (k_c_6_appliedCount n (remS c0 S) X R Uc.1 hn' h40) dL_law_402 zy_X6_appliedCount zm_L_37 rfl rfl (Nat.le_of_ble_eq_true rfl) (by decide) (by decide) ?_
  refine z_iload_15 dL_law_405 ?_
  refine z_isub dL_law_407 ?_
  refine z_icmp_ne_f 422 dL_law_408 (by decide) (by rw [u2, Int32.add_comm, Int32.add_sub_cancel]) ?_
  refine z_aload_1 dL_law_411 ?_
  refine z_ql (As := []) (v := .int (tu Uc.1)) (k_c_6_updateCount n (remS c0 S) X R Uc.1 hn' h40) dL_law_412 zy_X6_updateCount zm_L_27 rfl rfl (Nat.le_of_ble_eq_true rfl) (by decide) (by decide) ?_
  refine z_iload_13 dL_law_415 ?_
  refine z_iconst (v := 1) dL_law_417 rfl ?_
  refine z_iadd dL_law_418 ?_
  refine z_icmp_eq_t (tgt := 626) dL_law_419 (by decide) u1 ?_
  exact K _ _
end LW4
