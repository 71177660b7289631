def f_X6_bow (σ : Mm) (p1 : Int32) (p2 : Int32) : Option (Mm × Int32) :=
  bn1 (f_X6_isPart σ p1) (fun σ1 r1 => (if r1 = 0 then some (σ1, (-1)) else bn1 (f_X6_in σ1 p2 0 1) (fun σ3 r3 => (if r3 = 0 then some (σ3, (-1)) else bn1 (f_X6_makeBows σ3 p1 p2) (fun σ5 r5 => some (σ5, r5))))))
set_option maxHeartbeats 4000000 in
set_option maxRecDepth 100000 in
theorem w_X6_bow {K : Kx} (C : CxM K cX6_bow RX6 3 5 (some .int)) (σ : Mm) (p1 : Int32) (p2 : Int32) (hf : Sat (f_X6_bow σ p1 p2) (fun o => kRt K (some (.int o.2)) o.1)) : Gj K σ 0 [(0, .ref (kAd K 0)), (1, .int p1), (2, .int p2)] [] := by
  unfold f_X6_bow at hf
  have B := C.1
  refine g_iload_n B dX6_bow_0 rfl 1 rfl ?_
  obtain ⟨σ1, r1, h1, hf⟩ := sat_ca1 hf
  refine g_cSI (rest := []) B (ck_X6_isPart C h1) mo_X6_isPart wm_RX6_65 (by decide) rfl rfl (Nat.le_of_ble_eq_true rfl) dX6_bow_1 ?_
  refine g_if_eq (tgt := 25) B dX6_bow_4 (by decide) (fun c2 => ?_) (fun c2 => ?_)
  · have hf := sat_t hf c2
    refine g_iconst (v := (-1)) B dX6_bow_25 (by decide) ?_
    have hf := sat_some hf
    exact g_iret B rfl rfl dX6_bow_26 hf
  · have hf := sat_f hf c2
    refine g_iload_n B dX6_bow_7 rfl 2 rfl ?_
    refine g_iconst (v := 0) B dX6_bow_8 (by decide) ?_
    refine g_iconst (v := 1) B dX6_bow_9 (by decide) ?_
    obtain ⟨σ3, r3, h3, hf⟩ := sat_ca1 hf
    refine g_cSI (rest := []) B (ck_X6_in C h3) mo_X6_in wm_RX6_61 (by decide) rfl rfl (Nat.le_of_ble_eq_true rfl) dX6_bow_10 ?_
    refine g_if_eq (tgt := 25) B dX6_bow_13 (by decide) (fun c4 => ?_) (fun c4 => ?_)
    · have hf := sat_t hf c4
      refine g_iconst (v := (-1)) B dX6_bow_25 (by decide) ?_
      have hf := sat_some hf
      exact g_iret B rfl rfl dX6_bow_26 hf
    · have hf := sat_f hf c4
      refine g_aload_n B dX6_bow_16 rfl 0 rfl ?_
      refine g_iload_n B dX6_bow_17 rfl 1 rfl ?_
      refine g_iload_n B dX6_bow_18 rfl 2 rfl ?_
      obtain ⟨σ5, r5, h5, hf⟩ := sat_ca1 hf
      refine g_cVI (rest := []) B (ck_X6_makeBows C h5) mo_X6_makeBows wm_RX6_132 (by decide) (cM_o C) rfl rfl rfl (Nat.le_of_ble_eq_true rfl) dX6_bow_19 ?_
      refine g_goto (tgt := 26) B dX6_bow_22 (by decide) ?_
      have hf := sat_some hf
      exact g_iret B rfl rfl dX6_bow_26 hf
theorem c_X6_bow (l : Launch) (D : va_G) (Ad : Nat → Nat) (cI : ClassId) {σ : Mm} {p1 : Int32} {p2 : Int32} {τ : Mm} {r : Int32} (h : f_X6_bow σ p1 p2 = some (τ, r)) : CtI l D (tysM cI) (wdM Ad cI) StM yX6_bow cX6_bow 3 .int 5 σ [.ref (Ad 0), .int p1, .int p2] (τ, r) := by
  refine metI (Ad := Ad) (cI := cI) (cP := cI) (cII := cI) (by decide) (Nat.le_of_ble_eq_true rfl) (wdG_ok _ _ _) stOK_M rfl (fun K C G hR => ?_)
  have e : kAd K = Ad := G.2.2.2.2.2.1
  have C2 := cM_of C G
  have h9 := w_X6_bow C2 σ p1 p2 ⟨_, h, by rw [hR]; exact ⟨rfl, rfl⟩⟩
  rw [e] at h9
  exact h9
theorem ck_X6_bow {K : Kx} {cc : ByteArray} {own : String} {nL d : Nat} {rty : Option FieldType} (C : CxM K cc own nL d rty) {σ : Mm} {p1 : Int32} {p2 : Int32} {τ : Mm} {r : Int32} (h : f_X6_bow σ p1 p2 = some (τ, r)) : CtI (kl K) (kD K) (ktys K) (kwf K) (kSt K) yX6_bow cX6_bow 3 .int 5 σ [.ref (kAd K 0), .int p1, .int p2] (τ, r) := cM_eq C (P := fun l D tys wf St => CtI l D tys wf St yX6_bow cX6_bow 3 .int 5 σ [.ref (kAd K 0), .int p1, .int p2] (τ, r)) (c_X6_bow _ _ _ _ h)
def f_X6_stroke (σ : Mm) (p1 : Int32) (p2 : Int32) (p3 : Int32) : Option (Mm × Int32) :=
  bn1 (f_X6_isNote σ p1 p2) (fun σ1 r1 => (if r1 = 0 then some (σ1, (-1)) else bn1 (f_X6_in σ1 p3 0 1) (fun σ3 r3 => (if r3 = 0 then some (σ3, (-1)) else bn1 (f_X6_makeBows σ3 p1 p3) (fun σ5 r5 => (if 0 ≤ r5 then chk (inb ((12 * p1) + p2) 36) (some (σ5, (σ5 17 ((12 * p1) + p2).toNatClampNeg))) else some (σ5, (-3))))))))
set_option maxHeartbeats 4000000 in
set_option maxRecDepth 100000 in
theorem w_X6_stroke {K : Kx} (C : CxM K cX6_stroke RX6 4 5 (some .int)) (σ : Mm) (p1 : Int32) (p2 : Int32) (p3 : Int32) (hf : Sat (f_X6_stroke σ p1 p2 p3) (fun o => kRt K (some (.int o.2)) o.1)) : Gj K σ 0 [(0, .ref (kAd K 0)), (1, .int p1), (2, .int p2), (3, .int p3)] [] := by
  unfold f_X6_stroke at hf
  have B := C.1
  refine g_aload_n B dX6_stroke_0 rfl 0 rfl ?_
  refine g_iload_n B dX6_stroke_1 rfl 1 rfl ?_
  refine g_iload_n B dX6_stroke_2 rfl 2 rfl ?_
  obtain ⟨σ1, r1, h1, hf⟩ := sat_ca1 hf
  refine g_cVI (rest := []) B (ck_X6_isNote C h1) mo_X6_isNote wm_RX6_76 (by decide) (cM_o C) rfl rfl rfl (Nat.le_of_ble_eq_true rfl) dX6_stroke_3 ?_
  refine g_if_eq (tgt := 18) B dX6_stroke_6 (by decide) (fun c2 => ?_) (fun c2 => ?_)
  · have hf := sat_t hf c2
    refine g_iconst (v := (-1)) B dX6_stroke_18 (by decide) ?_
    have hf := sat_some hf
    exact g_iret B rfl rfl dX6_stroke_19 hf
  · have hf := sat_f hf c2
    refine g_iload_n B dX6_stroke_9 rfl 3 rfl ?_
    refine g_iconst (v := 0) B dX6_stroke_10 (by decide) ?_
    refine g_iconst (v := 1) B dX6_stroke_11 (by decide) ?_
    obtain ⟨σ3, r3, h3, hf⟩ := sat_ca1 hf
    refine g_cSI (rest := []) B (ck_X6_in C h3) mo_X6_in wm_RX6_61 (by decide) rfl rfl (Nat.le_of_ble_eq_true rfl) dX6_stroke_12 ?_
    refine g_if_ne (tgt := 20) B dX6_stroke_15 (by decide) (fun c4 => ?_) (fun c4 => ?_)
    · have hf := sat_f hf c4
      refine g_aload_n B dX6_stroke_20 rfl 0 rfl ?_
      refine g_iload_n B dX6_stroke_21 rfl 1 rfl ?_
      refine g_iload_n B dX6_stroke_22 rfl 3 rfl ?_
      obtain ⟨σ5, r5, h5, hf⟩ := sat_ca1 hf
      refine g_cVI (rest := []) B (ck_X6_makeBows C h5) mo_X6_makeBows wm_RX6_132 (by decide) (cM_o C) rfl rfl rfl (Nat.le_of_ble_eq_true rfl) dX6_stroke_23 ?_
      refine g_if_ge (tgt := 34) B dX6_stroke_26 (by decide) (fun c6 => ?_) (fun c6 => ?_)
      · have hf := sat_t hf c6
        refine g_aload_n B dX6_stroke_34 rfl 0 rfl ?_
        refine m_get_ways C wf_RX6_58 dX6_stroke_35 ?_
        refine g_bipush (v := 12) B dX6_stroke_38 (by decide) ?_
        refine g_iload_n B dX6_stroke_40 rfl 1 rfl ?_
        refine g_imul B dX6_stroke_41 ?_
        refine g_iload_n B dX6_stroke_42 rfl 2 rfl ?_
        refine g_iadd B dX6_stroke_43 ?_
        obtain ⟨h7, hf⟩ := sat_chk hf
        refine m_iald C 16 (by decide) rfl h7 dX6_stroke_44 ?_
        have hf := sat_some hf
        exact g_iret B rfl rfl dX6_stroke_45 hf
      · have hf := sat_f hf c6
        refine g_bipush (v := (-3)) B dX6_stroke_29 (by decide) ?_
        refine g_goto (tgt := 45) B dX6_stroke_31 (by decide) ?_
        have hf := sat_some hf
        exact g_iret B rfl rfl dX6_stroke_45 hf
    · have hf := sat_t hf c4
      refine g_iconst (v := (-1)) B dX6_stroke_18 (by decide) ?_
      have hf := sat_some hf
      exact g_iret B rfl rfl dX6_stroke_19 hf
theorem c_X6_stroke (l : Launch) (D : va_G) (Ad : Nat → Nat) (cI : ClassId) {σ : Mm} {p1 : Int32} {p2 : Int32} {p3 : Int32} {τ : Mm} {r : Int32} (h : f_X6_stroke σ p1 p2 p3 = some (τ, r)) : CtI l D (tysM cI) (wdM Ad cI) StM yX6_stroke cX6_stroke 4 .int 5 σ [.ref (Ad 0), .int p1, .int p2, .int p3] (τ, r) := by
  refine metI (Ad := Ad) (cI := cI) (cP := cI) (cII := cI) (by decide) (Nat.le_of_ble_eq_true rfl) (wdG_ok _ _ _) stOK_M rfl (fun K C G hR => ?_)
  have e : kAd K = Ad := G.2.2.2.2.2.1
  have C2 := cM_of C G
  have h9 := w_X6_stroke C2 σ p1 p2 p3 ⟨_, h, by rw [hR]; exact ⟨rfl, rfl⟩⟩
  rw [e] at h9
  exact h9
theorem ck_X6_stroke {K : Kx} {cc : ByteArray} {own : String} {nL d : Nat} {rty : Option FieldType} (C : CxM K cc own nL d rty) {σ : Mm} {p1 : Int32} {p2 : Int32} {p3 : Int32} {τ : Mm} {r : Int32} (h : f_X6_stroke σ p1 p2 p3 = some (τ, r)) : CtI (kl K) (kD K) (ktys K) (kwf K) (kSt K) yX6_stroke cX6_stroke 4 .int 5 σ [.ref (kAd K 0), .int p1, .int p2, .int p3] (τ, r) := cM_eq C (P := fun l D tys wf St => CtI l D tys wf St yX6_stroke cX6_stroke 4 .int 5 σ [.ref (kAd K 0), .int p1, .int p2, .int p3] (τ, r)) (c_X6_stroke _ _ _ _ h)
def f_X6_strokes_t165 (v9_4 : Int32) (w17_0 : Int32) (v9_5 : Int32) (w18_0 : Int32) (v9_6 : Int32) (σ20 : Mm) (v20_7 : Int32) : Option ((Mm × Int32 × Int32 × Int32 × Int32) ⊕ (Mm × Int32 × Int32 × Int32)) :=
  some (.inl (σ20, (v9_4 + w17_0), (v9_5 + w18_0), (v9_6 + 1), (v20_7 + 1)))
def f_X6_strokes_s51 (p1 : Int32) (σ9 : Mm) (v9_4 : Int32) (v9_5 : Int32) (v9_6 : Int32) (v9_7 : Int32) : Option ((Mm × Int32 × Int32 × Int32 × Int32) ⊕ (Mm × Int32 × Int32 × Int32)) :=
  chk (inb p1 3) ((if (σ9 2 p1.toNatClampNeg) ≤ v9_7 then some (.inr (σ9, v9_4, v9_5, v9_6)) else bn1 ((if v9_7 ≤ 0 then some (σ9, 0) else chk (inb ((12 * p1) + v9_7) 36) (chk (inb (((12 * p1) + v9_7) - 1) 36) ((if (σ9 17 ((12 * p1) + v9_7).toNatClampNeg) = (σ9 17 (((12 * p1) + v9_7) - 1).toNatClampNeg) then some (σ9, 1) else some (σ9, 0))))) : Option (Mm × Int32)) (fun σ15 w15_0 => bn1 (f_X6_is σ15 p1 v9_7 2) (fun σ16 r16 => bn1 ((if w15_0 = 0 then some (σ16, 0) else (if r16 = 0 then some (σ16, 1) else some (σ16, 0))) : Option (Mm × Int32)) (fun σ17 w17_0 => bn1 ((if w15_0 = 0 then (if r16 = 0 then some (σ17, 0) else some (σ17, 1)) else some (σ17, 0)) : Option (Mm × Int32)) (fun σ18 w18_0 => (if r16 = 0 then (f_X6_strokes_t165 v9_4 w17_0 v9_5 w18_0 v9_6 σ18 v9_7) else (if w15_0 = 0 then (f_X6_strokes_t165 v9_4 w17_0 v9_5 w18_0 v9_6 σ18 v9_7) else some (.inl (σ18, (v9_4 + w17_0), (v9_5 + w18_0), (v9_6 + 0), (v9_7 + 1)))))))))))
def f_X6_strokes (σ : Mm) (p1 : Int32) (p2 : Int32) (p3 : Int32) : Option (Mm × Int32) :=
  bn1 (f_X6_isPart σ p1) (fun σ1 r1 => (if r1 = 0 then some (σ1, (-1)) else bn1 (f_X6_in σ1 p2 0 1) (fun σ3 r3 => (if r3 = 0 then some (σ3, (-1)) else bn1 (f_X6_in σ3 p3 0 2) (fun σ5 r5 => (if r5 = 0 then some (σ5, (-1)) else bn1 (f_X6_makeBows σ5 p1 p2) (fun σ7 r7 => (if 0 ≤ r7 then bn3 (lq4 (f_X6_strokes_s51 p1) fu σ7 0 0 0 0) (fun σ10 v10_4 v10_5 v10_6 => (if p3 = 0 then some (σ10, v10_4) else (if p3 = 1 then some (σ10, v10_5) else some (σ10, v10_6)))) else some (σ7, (-3))))))))))
set_option maxHeartbeats 4000000 in
set_option maxRecDepth 100000 in
theorem w_X6_strokes {K : Kx} (C : CxM K cX6_strokes RX6 10 5 (some .int)) (σ : Mm) (p1 : Int32) (p2 : Int32) (p3 : Int32) (hf : Sat (f_X6_strokes σ p1 p2 p3) (fun o => kRt K (some (.int o.2)) o.1)) : Gj K σ 0 [(0, .ref (kAd K 0)), (1, .int p1), (2, .int p2), (3, .int p3)] [] := by
  unfold f_X6_strokes at hf
  have B := C.1
  refine g_iload_n B dX6_strokes_0 rfl 1 rfl ?_
  obtain ⟨σ1, r1, h1, hf⟩ := sat_ca1 hf
  refine g_cSI (rest := []) B (ck_X6_isPart C h1) mo_X6_isPart wm_RX6_65 (by decide) rfl rfl (Nat.le_of_ble_eq_true rfl) dX6_strokes_1 ?_
  refine g_if_eq (tgt := 25) B dX6_strokes_4 (by decide) (fun c2 => ?_) (fun c2 => ?_)
  · have hf := sat_t hf c2
    refine g_iconst (v := (-1)) B dX6_strokes_25 (by decide) ?_
    have hf := sat_some hf
    exact g_iret B rfl rfl dX6_strokes_26 hf
  · have hf := sat_f hf c2
    refine g_iload_n B dX6_strokes_7 rfl 2 rfl ?_
    refine g_iconst (v := 0) B dX6_strokes_8 (by decide) ?_
    refine g_iconst (v := 1) B dX6_strokes_9 (by decide) ?_
    obtain ⟨σ3, r3, h3, hf⟩ := sat_ca1 hf
    refine g_cSI (rest := []) B (ck_X6_in C h3) mo_X6_in wm_RX6_61 (by decide) rfl rfl (Nat.le_of_ble_eq_true rfl) dX6_strokes_10 ?_
    refine g_if_eq (tgt := 25) B dX6_strokes_13 (by decide) (fun c4 => ?_) (fun c4 => ?_)
    · have hf := sat_t hf c4
      refine g_iconst (v := (-1)) B dX6_strokes_25 (by decide) ?_
      have hf := sat_some hf
      exact g_iret B rfl rfl dX6_strokes_26 hf
    · have hf := sat_f hf c4
      refine g_iload_n B dX6_strokes_16 rfl 3 rfl ?_
      refine g_iconst (v := 0) B dX6_strokes_17 (by decide) ?_
      refine g_iconst (v := 2) B dX6_strokes_18 (by decide) ?_
      obtain ⟨σ5, r5, h5, hf⟩ := sat_ca1 hf
      refine g_cSI (rest := []) B (ck_X6_in C h5) mo_X6_in wm_RX6_61 (by decide) rfl rfl (Nat.le_of_ble_eq_true rfl) dX6_strokes_19 ?_
      refine g_if_ne (tgt := 27) B dX6_strokes_22 (by decide) (fun c6 => ?_) (fun c6 => ?_)
      · have hf := sat_f hf c6
        refine g_aload_n B dX6_strokes_27 rfl 0 rfl ?_
        refine g_iload_n B dX6_strokes_28 rfl 1 rfl ?_
        refine g_iload_n B dX6_strokes_29 rfl 2 rfl ?_
        obtain ⟨σ7, r7, h7, hf⟩ := sat_ca1 hf
        refine g_cVI (rest := []) B (ck_X6_makeBows C h7) mo_X6_makeBows wm_RX6_132 (by decide) (cM_o C) rfl rfl rfl (Nat.le_of_ble_eq_true rfl) dX6_strokes_30 ?_
        refine g_if_ge (tgt := 39) B dX6_strokes_33 (by decide) (fun c8 => ?_) (fun c8 => ?_)
        · have hf := sat_t hf c8
          refine g_iconst (v := 0) B dX6_strokes_39 (by decide) ?_
          refine g_istore B [(0, .ref (kAd K 0)), (1, .int p1), (2, .int p2), (3, .int p3), (4, .int 0)] dX6_strokes_40 (by decide) [1, 2, 3, 4, 0] rfl ?_
          refine g_iconst (v := 0) B dX6_strokes_42 (by decide) ?_
          refine g_istore B [(0, .ref (kAd K 0)), (1, .int p1), (2, .int p2), (3, .int p3), (4, .int 0), (5, .int 0)] dX6_strokes_43 (by decide) [1, 2, 3, 4, 5, 0] rfl ?_
          refine g_iconst (v := 0) B dX6_strokes_45 (by decide) ?_
          refine g_istore B [(0, .ref (kAd K 0)), (1, .int p1), (2, .int p2), (3, .int p3), (4, .int 0), (5, .int 0), (6, .int 0)] dX6_strokes_46 (by decide) [1, 2, 3, 4, 5, 6, 0] rfl ?_
          refine g_iconst (v := 0) B dX6_strokes_48 (by decide) ?_
          refine g_istore B [(0, .ref (kAd K 0)), (1, .int p1), (2, .int p2), (3, .int p3), (4, .int 0), (5, .int 0), (6, .int 0), (7, .int 0)] dX6_strokes_49 (by decide) [1, 2, 3, 4, 5, 6, 7, 0] rfl ?_
          refine g_sub (lv' := [(0, .ref (kAd K 0)), (1, .int p1), (3, .int p3), (4, .int 0), (5, .int 0), (6, .int 0), (7, .int 0)]) ?_ [0, 1, 3, 4, 5, 6, 7] rfl
          have hf := sat_cu3 (G := fun σ10 v10_4 v10_5 v10_6 => Gj K σ10 179 [(3, .int p3), (4, .int v10_4), (5, .int v10_5), (6, .int v10_6)] []) hf (by
            intro σ10 v10_4 v10_5 v10_6 hf
            refine g_iload_n B dX6_strokes_179 rfl 0 rfl ?_
            refine g_if_ne (tgt := 188) B dX6_strokes_180 (by decide) (fun c11 => ?_) (fun c11 => ?_)
            · have hf := sat_f hf c11
              refine g_iload_n B dX6_strokes_188 rfl 0 rfl ?_
              refine g_iconst (v := 1) B dX6_strokes_189 (by decide) ?_
              refine g_icmp_ne (tgt := 198) B dX6_strokes_190 (by decide) (fun c12 => ?_) (fun c12 => ?_)
              · have hf := sat_f hf c12
                refine g_iload B dX6_strokes_198 3 rfl ?_
                have hf := sat_some hf
                exact g_iret B rfl rfl dX6_strokes_200 hf
              · have hf := sat_t hf c12
                refine g_iload B dX6_strokes_193 2 rfl ?_
                refine g_goto (tgt := 200) B dX6_strokes_195 (by decide) ?_
                have hf := sat_some hf
                exact g_iret B rfl rfl dX6_strokes_200 hf
            · have hf := sat_t hf c11
              refine g_iload B dX6_strokes_183 1 rfl ?_
              refine g_goto (tgt := 200) B dX6_strokes_185 (by decide) ?_
              have hf := sat_some hf
              exact g_iret B rfl rfl dX6_strokes_200 hf)
          refine lqr4 (Gh := fun σ9 v9_4 v9_5 v9_6 v9_7 => Gj K σ9 51 [(0, .ref (kAd K 0)), (1, .int p1), (3, .int p3), (4, .int v9_4), (5, .int v9_5), (6, .int v9_6), (7, .int v9_7)] []) ?_ fu σ7 0 0 0 0 hf
          intro σ9 v9_4 v9_5 v9_6 v9_7 hf
          unfold f_X6_strokes_s51 at hf
          refine g_iload B dX6_strokes_51 6 rfl ?_
          refine g_aload_n B dX6_strokes_53 rfl 0 rfl ?_
          refine m_get_notes C wf_RX6_13 dX6_strokes_54 ?_
          refine g_iload_n B dX6_strokes_57 rfl 1 rfl ?_
          obtain ⟨h13, hf⟩ := sat_chk hf
          refine m_iald C 1 (by decide) rfl h13 dX6_strokes_58 ?_
          refine g_icmp_ge (tgt := 179) B dX6_strokes_59 (by decide) (fun c14 => ?_) (fun c14 => ?_)
          · have hf := sat_t hf c14
            have hf := sum_r (sat_some hf)
            exact g_sub hf [2, 3, 4, 5] rfl
          · have hf := sat_f hf c14
            refine g_iload B dX6_strokes_62 6 rfl ?_
            have hf := sat_cu1 (G := fun σ15 w15_0 => Gj K σ15 101 [(0, .ref (kAd K 0)), (1, .int p1), (3, .int p3), (4, .int v9_4), (5, .int v9_5), (6, .int v9_6), (7, .int v9_7)] [.int w15_0]) hf (by
              intro σ15 w15_0 hf
              refine g_istore B [(0, .ref (kAd K 0)), (1, .int p1), (3, .int p3), (4, .int v9_4), (5, .int v9_5), (6, .int v9_6), (7, .int v9_7), (8, .int w15_0)] dX6_strokes_101 (by decide) [1, 2, 3, 4, 5, 6, 7, 0] rfl ?_
              refine g_aload_n B dX6_strokes_103 rfl 0 rfl ?_
              refine g_iload_n B dX6_strokes_104 rfl 1 rfl ?_
              refine g_iload B dX6_strokes_105 6 rfl ?_
              refine g_iconst (v := 2) B dX6_strokes_107 (by decide) ?_
              obtain ⟨σ16, r16, h16, hf⟩ := sat_ca1 hf
              refine g_cVI (rest := []) B (ck_X6_is C h16) mo_X6_is wm_RX6_108 (by decide) (cM_o C) rfl rfl rfl (Nat.le_of_ble_eq_true rfl) dX6_strokes_108 ?_
              refine g_istore B [(0, .ref (kAd K 0)), (1, .int p1), (3, .int p3), (4, .int v9_4), (5, .int v9_5), (6, .int v9_6), (7, .int v9_7), (8, .int w15_0), (9, .int r16)] dX6_strokes_111 (by decide) [1, 2, 3, 4, 5, 6, 7, 8, 0] rfl ?_
              refine g_iload B dX6_strokes_113 3 rfl ?_
              refine g_iload B dX6_strokes_115 7 rfl ?_
              have hf := sat_cu1 (G := fun σ17 w17_0 => Gj K σ17 130 [(0, .ref (kAd K 0)), (1, .int p1), (3, .int p3), (5, .int v9_5), (6, .int v9_6), (7, .int v9_7), (8, .int w15_0), (9, .int r16)] [.int w17_0, .int v9_4]) hf (by
                intro σ17 w17_0 hf
                refine g_iadd B dX6_strokes_130 ?_
                refine g_istore B [(0, .ref (kAd K 0)), (1, .int p1), (3, .int p3), (4, .int ((v9_4 + w17_0))), (5, .int v9_5), (6, .int v9_6), (7, .int v9_7), (8, .int w15_0), (9, .int r16)] dX6_strokes_131 (by decide) [1, 2, 3, 0, 4, 5, 6, 7, 8] rfl ?_
                refine g_iload B dX6_strokes_133 4 rfl ?_
                refine g_iload B dX6_strokes_135 7 rfl ?_
                have hf := sat_cu1 (G := fun σ18 w18_0 => Gj K σ18 150 [(0, .ref (kAd K 0)), (1, .int p1), (3, .int p3), (4, .int ((v9_4 + w17_0))), (6, .int v9_6), (7, .int v9_7), (8, .int w15_0), (9, .int r16)] [.int w18_0, .int v9_5]) hf (by
                  intro σ18 w18_0 hf
                  refine g_iadd B dX6_strokes_150 ?_
                  refine g_istore B [(0, .ref (kAd K 0)), (1, .int p1), (3, .int p3), (4, .int ((v9_4 + w17_0))), (5, .int ((v9_5 + w18_0))), (6, .int v9_6), (7, .int v9_7), (8, .int w15_0), (9, .int r16)] dX6_strokes_151 (by decide) [1, 2, 3, 4, 0, 5, 6, 7, 8] rfl ?_
                  refine g_iload B dX6_strokes_153 5 rfl ?_
                  refine g_iload B dX6_strokes_155 8 rfl ?_
                  refine sat_P hf (fun P20 eP20 hf => ?_)
                  have hk20 : ∀ (σ20 : Mm) (v20_7 : Int32), Sat (f_X6_strokes_t165 v9_4 w17_0 v9_5 w18_0 v9_6 σ20 v20_7) P20 → Gj K σ20 165 [(0, .ref (kAd K 0)), (1, .int p1), (3, .int p3), (4, .int ((v9_4 + w17_0))), (5, .int ((v9_5 + w18_0))), (7, .int v20_7)] [.int v9_6] := by
                    intro σ20 v20_7 hf
                    rw [eP20] at hf
                    unfold f_X6_strokes_t165 at hf
                    refine g_iconst (v := 1) B dX6_strokes_165 (by decide) ?_
                    refine g_goto (tgt := 170) B dX6_strokes_166 (by decide) ?_
                    refine g_iadd B dX6_strokes_170 ?_
                    refine g_istore B [(0, .ref (kAd K 0)), (1, .int p1), (3, .int p3), (4, .int ((v9_4 + w17_0))), (5, .int ((v9_5 + w18_0))), (6, .int ((v9_6 + 1))), (7, .int v20_7)] dX6_strokes_171 (by decide) [1, 2, 3, 4, 5, 0, 6] rfl ?_
                    refine g_iinc B (v20_7 + 1) [(0, .ref (kAd K 0)), (1, .int p1), (3, .int p3), (4, .int ((v9_4 + w17_0))), (5, .int ((v9_5 + w18_0))), (6, .int ((v9_6 + 1))), (7, .int ((v20_7 + 1)))] dX6_strokes_173 6 rfl rfl (by decide) [1, 2, 3, 4, 5, 6, 0] rfl ?_
                    refine g_goto (tgt := 51) B dX6_strokes_176 (by decide) ?_
                    have hf := sum_l (sat_some hf)
                    exact g_sub hf [0, 1, 2, 3, 4, 5, 6] rfl
                  subst eP20
                  refine g_if_eq (tgt := 165) B dX6_strokes_157 (by decide) (fun c19 => ?_) (fun c19 => ?_)
                  · have hf := sat_t hf c19
                    have hf := hk20 σ18 v9_7 hf
                    exact g_sub hf [0, 1, 2, 3, 4, 6] rfl
                  · have hf := sat_f hf c19
                    refine g_iload B dX6_strokes_160 7 rfl ?_
                    refine g_if_ne (tgt := 169) B dX6_strokes_162 (by decide) (fun c21 => ?_) (fun c21 => ?_)
                    · have hf := sat_f hf c21
                      refine g_iconst (v := 0) B dX6_strokes_169 (by decide) ?_
                      refine g_iadd B dX6_strokes_170 ?_
                      refine g_istore B [(0, .ref (kAd K 0)), (1, .int p1), (3, .int p3), (4, .int ((v9_4 + w17_0))), (5, .int ((v9_5 + w18_0))), (6, .int ((v9_6 + 0))), (7, .int v9_7), (8, .int w15_0), (9, .int r16)] dX6_strokes_171 (by decide) [1, 2, 3, 4, 5, 0, 6, 7, 8] rfl ?_
                      refine g_iinc B (v9_7 + 1) [(0, .ref (kAd K 0)), (1, .int p1), (3, .int p3), (4, .int ((v9_4 + w17_0))), (5, .int ((v9_5 + w18_0))), (6, .int ((v9_6 + 0))), (7, .int ((v9_7 + 1))), (8, .int w15_0), (9, .int r16)] dX6_strokes_173 6 rfl rfl (by decide) [1, 2, 3, 4, 5, 6, 0, 7, 8] rfl ?_
                      refine g_goto (tgt := 51) B dX6_strokes_176 (by decide) ?_
                      have hf := sum_l (sat_some hf)
                      exact g_sub hf [0, 1, 2, 3, 4, 5, 6] rfl
                    · have hf := sat_t hf c21
                      have hf := hk20 σ18 v9_7 hf
                      exact g_sub hf [0, 1, 2, 3, 4, 6] rfl)
                refine g_if_ne (tgt := 149) B dX6_strokes_137 (by decide) (fun c18 => ?_) (fun c18 => ?_)
                · have hf := sat_f hf c18
                  refine g_iconst (v := 0) B dX6_strokes_149 (by decide) ?_
                  have hf := sat_some hf
                  exact g_sub hf [0, 1, 2, 3, 5, 6, 7, 8] rfl
                · have hf := sat_t hf c18
                  refine g_iload B dX6_strokes_140 8 rfl ?_
                  refine g_if_eq (tgt := 149) B dX6_strokes_142 (by decide) (fun c22 => ?_) (fun c22 => ?_)
                  · have hf := sat_t hf c22
                    refine g_iconst (v := 0) B dX6_strokes_149 (by decide) ?_
                    have hf := sat_some hf
                    exact g_sub hf [0, 1, 2, 3, 5, 6, 7, 8] rfl
                  · have hf := sat_f hf c22
                    refine g_iconst (v := 1) B dX6_strokes_145 (by decide) ?_
                    refine g_goto (tgt := 150) B dX6_strokes_146 (by decide) ?_
                    have hf := sat_some hf
                    exact g_sub hf [0, 1, 2, 3, 5, 6, 7, 8] rfl)
              refine g_if_eq (tgt := 129) B dX6_strokes_117 (by decide) (fun c17 => ?_) (fun c17 => ?_)
              · have hf := sat_t hf c17
                refine g_iconst (v := 0) B dX6_strokes_129 (by decide) ?_
                have hf := sat_some hf
                exact g_sub hf [0, 1, 2, 4, 5, 6, 7, 8] rfl
              · have hf := sat_f hf c17
                refine g_iload B dX6_strokes_120 8 rfl ?_
                refine g_if_ne (tgt := 129) B dX6_strokes_122 (by decide) (fun c23 => ?_) (fun c23 => ?_)
                · have hf := sat_f hf c23
                  refine g_iconst (v := 0) B dX6_strokes_129 (by decide) ?_
                  have hf := sat_some hf
                  exact g_sub hf [0, 1, 2, 4, 5, 6, 7, 8] rfl
                · have hf := sat_t hf c23
                  refine g_iconst (v := 1) B dX6_strokes_125 (by decide) ?_
                  refine g_goto (tgt := 130) B dX6_strokes_126 (by decide) ?_
                  have hf := sat_some hf
                  exact g_sub hf [0, 1, 2, 4, 5, 6, 7, 8] rfl)
            refine g_if_le (tgt := 100) B dX6_strokes_64 (by decide) (fun c15 => ?_) (fun c15 => ?_)
            · have hf := sat_t hf c15
              refine g_iconst (v := 0) B dX6_strokes_100 (by decide) ?_
              have hf := sat_some hf
              exact g_sub hf [0, 1, 2, 3, 4, 5, 6] rfl
            · have hf := sat_f hf c15
              refine g_aload_n B dX6_strokes_67 rfl 0 rfl ?_
              refine m_get_ways C wf_RX6_58 dX6_strokes_68 ?_
              refine g_bipush (v := 12) B dX6_strokes_71 (by decide) ?_
              refine g_iload_n B dX6_strokes_73 rfl 1 rfl ?_
              refine g_imul B dX6_strokes_74 ?_
              refine g_iload B dX6_strokes_75 6 rfl ?_
              refine g_iadd B dX6_strokes_77 ?_
              obtain ⟨h24, hf⟩ := sat_chk hf
              refine m_iald C 16 (by decide) rfl h24 dX6_strokes_78 ?_
              refine g_aload_n B dX6_strokes_79 rfl 0 rfl ?_
              refine m_get_ways C wf_RX6_58 dX6_strokes_80 ?_
              refine g_bipush (v := 12) B dX6_strokes_83 (by decide) ?_
              refine g_iload_n B dX6_strokes_85 rfl 1 rfl ?_
              refine g_imul B dX6_strokes_86 ?_
              refine g_iload B dX6_strokes_87 6 rfl ?_
              refine g_iadd B dX6_strokes_89 ?_
              refine g_iconst (v := 1) B dX6_strokes_90 (by decide) ?_
              refine g_isub B dX6_strokes_91 ?_
              obtain ⟨h25, hf⟩ := sat_chk hf
              refine m_iald C 16 (by decide) rfl h25 dX6_strokes_92 ?_
              refine g_icmp_ne (tgt := 100) B dX6_strokes_93 (by decide) (fun c26 => ?_) (fun c26 => ?_)
              · have hf := sat_f hf c26
                refine g_iconst (v := 0) B dX6_strokes_100 (by decide) ?_
                have hf := sat_some hf
                exact g_sub hf [0, 1, 2, 3, 4, 5, 6] rfl
              · have hf := sat_t hf c26
                refine g_iconst (v := 1) B dX6_strokes_96 (by decide) ?_
                refine g_goto (tgt := 101) B dX6_strokes_97 (by decide) ?_
                have hf := sat_some hf
                exact g_sub hf [0, 1, 2, 3, 4, 5, 6] rfl
        · have hf := sat_f hf c8
          refine g_bipush (v := (-3)) B dX6_strokes_36 (by decide) ?_
          have hf := sat_some hf
          exact g_iret B rfl rfl dX6_strokes_38 hf
      · have hf := sat_t hf c6
        refine g_iconst (v := (-1)) B dX6_strokes_25 (by decide) ?_
        have hf := sat_some hf
        exact g_iret B rfl rfl dX6_strokes_26 hf
theorem c_X6_strokes (l : Launch) (D : va_G) (Ad : Nat → Nat) (cI : ClassId) {σ : Mm} {p1 : Int32} {p2 : Int32} {p3 : Int32} {τ : Mm} {r : Int32} (h : f_X6_strokes σ p1 p2 p3 = some (τ, r)) : CtI l D (tysM cI) (wdM Ad cI) StM yX6_strokes cX6_strokes 10 .int 5 σ [.ref (Ad 0), .int p1, .int p2, .int p3] (τ, r) := by
  refine metI (Ad := Ad) (cI := cI) (cP := cI) (cII := cI) (by decide) (Nat.le_of_ble_eq_true rfl) (wdG_ok _ _ _) stOK_M rfl (fun K C G hR => ?_)
  have e : kAd K = Ad := G.2.2.2.2.2.1
  have C2 := cM_of C G
  have h9 := w_X6_strokes C2 σ p1 p2 p3 ⟨_, h, by rw [hR]; exact ⟨rfl, rfl⟩⟩
  rw [e] at h9
  exact h9
theorem ck_X6_strokes {K : Kx} {cc : ByteArray} {own : String} {nL d : Nat} {rty : Option FieldType} (C : CxM K cc own nL d rty) {σ : Mm} {p1 : Int32} {p2 : Int32} {p3 : Int32} {τ : Mm} {r : Int32} (h : f_X6_strokes σ p1 p2 p3 = some (τ, r)) : CtI (kl K) (kD K) (ktys K) (kwf K) (kSt K) yX6_strokes cX6_strokes 10 .int 5 σ [.ref (kAd K 0), .int p1, .int p2, .int p3] (τ, r) := cM_eq C (P := fun l D tys wf St => CtI l D tys wf St yX6_strokes cX6_strokes 10 .int 5 σ [.ref (kAd K 0), .int p1, .int p2, .int p3] (τ, r)) (c_X6_strokes _ _ _ _ h)
def f_X6_areAlike (σ : Mm) (p1 : Int32) (p2 : Int32) (p3 : Int32) (p4 : Int32) : Option (Mm × Int32) :=
  chk (inb ((12 * p1) + p2) 36) (chk (inb ((12 * p3) + p4) 36) ((if (σ 5 ((12 * p1) + p2).toNatClampNeg) = (σ 5 ((12 * p3) + p4).toNatClampNeg) then bn1 (f_X6_onset σ p1 p2) (fun σ4 r4 => bn1 (f_X6_onset σ4 p3 p4) (fun σ5 r5 => (if r4 = r5 then some (σ5, 1) else some (σ5, 0)))) else some (σ, 0))))
set_option maxHeartbeats 4000000 in
set_option maxRecDepth 100000 in
theorem w_X6_areAlike {K : Kx} (C : CxM K cX6_areAlike RX6 5 1 (some .boolean)) (σ : Mm) (p1 : Int32) (p2 : Int32) (p3 : Int32) (p4 : Int32) (hf : Sat (f_X6_areAlike σ p1 p2 p3 p4) (fun o => kRt K (some (.int o.2)) o.1)) : Gj K σ 0 [(0, .ref (kAd K 0)), (1, .int p1), (2, .int p2), (3, .int p3), (4, .int p4)] [] := by
  unfold f_X6_areAlike at hf
  have B := C.1
  refine g_aload_n B dX6_areAlike_0 rfl 0 rfl ?_
  refine m_get_length C wf_RX6_22 dX6_areAlike_1 ?_
  refine g_bipush (v := 12) B dX6_areAlike_4 (by decide) ?_
  refine g_iload_n B dX6_areAlike_6 rfl 1 rfl ?_
  refine g_imul B dX6_areAlike_7 ?_
  refine g_iload_n B dX6_areAlike_8 rfl 2 rfl ?_
  refine g_iadd B dX6_areAlike_9 ?_
  obtain ⟨h1, hf⟩ := sat_chk hf
  refine m_iald C 4 (by decide) rfl h1 dX6_areAlike_10 ?_
  refine g_aload_n B dX6_areAlike_11 rfl 0 rfl ?_
  refine m_get_length C wf_RX6_22 dX6_areAlike_12 ?_
  refine g_bipush (v := 12) B dX6_areAlike_15 (by decide) ?_
  refine g_iload_n B dX6_areAlike_17 rfl 3 rfl ?_
  refine g_imul B dX6_areAlike_18 ?_
  refine g_iload B dX6_areAlike_19 4 rfl ?_
  refine g_iadd B dX6_areAlike_21 ?_
  obtain ⟨h2, hf⟩ := sat_chk hf
  refine m_iald C 4 (by decide) rfl h2 dX6_areAlike_22 ?_
  refine g_icmp_ne (tgt := 46) B dX6_areAlike_23 (by decide) (fun c3 => ?_) (fun c3 => ?_)
  · have hf := sat_f hf c3
    refine g_iconst (v := 0) B dX6_areAlike_46 (by decide) ?_
    have hf := sat_some hf
    exact g_iret B rfl rfl dX6_areAlike_47 hf
  · have hf := sat_t hf c3
    refine g_aload_n B dX6_areAlike_26 rfl 0 rfl ?_
    refine g_iload_n B dX6_areAlike_27 rfl 1 rfl ?_
    refine g_iload_n B dX6_areAlike_28 rfl 2 rfl ?_
    obtain ⟨σ4, r4, h4, hf⟩ := sat_ca1 hf
    refine g_cVI (rest := []) B (ck_X6_onset C h4) mo_X6_onset wm_RX6_94 (by decide) (cM_o C) rfl rfl rfl (Nat.le_of_ble_eq_true rfl) dX6_areAlike_29 ?_
    refine g_aload_n B dX6_areAlike_32 rfl 0 rfl ?_
    refine g_iload_n B dX6_areAlike_33 rfl 3 rfl ?_
    refine g_iload B dX6_areAlike_34 4 rfl ?_
    obtain ⟨σ5, r5, h5, hf⟩ := sat_ca1 hf
    refine g_cVI (rest := [.int r4]) B (ck_X6_onset C h5) mo_X6_onset wm_RX6_94 (by decide) (cM_o C) rfl rfl rfl (Nat.le_of_ble_eq_true rfl) dX6_areAlike_36 ?_
    refine g_icmp_ne (tgt := 46) B dX6_areAlike_39 (by decide) (fun c6 => ?_) (fun c6 => ?_)
    · have hf := sat_f hf c6
      refine g_iconst (v := 0) B dX6_areAlike_46 (by decide) ?_
      have hf := sat_some hf
      exact g_iret B rfl rfl dX6_areAlike_47 hf
    · have hf := sat_t hf c6
      refine g_iconst (v := 1) B dX6_areAlike_42 (by decide) ?_
      refine g_goto (tgt := 47) B dX6_areAlike_43 (by decide) ?_
      have hf := sat_some hf
      exact g_iret B rfl rfl dX6_areAlike_47 hf
theorem c_X6_areAlike (l : Launch) (D : va_G) (Ad : Nat → Nat) (cI : ClassId) {σ : Mm} {p1 : Int32} {p2 : Int32} {p3 : Int32} {p4 : Int32} {τ : Mm} {r : Int32} (h : f_X6_areAlike σ p1 p2 p3 p4 = some (τ, r)) : CtI l D (tysM cI) (wdM Ad cI) StM yX6_areAlike cX6_areAlike 5 .boolean 1 σ [.ref (Ad 0), .int p1, .int p2, .int p3, .int p4] (τ, r) := by
  refine metI (Ad := Ad) (cI := cI) (cP := cI) (cII := cI) (by decide) (Nat.le_of_ble_eq_true rfl) (wdG_ok _ _ _) stOK_M rfl (fun K C G hR => ?_)
  have e : kAd K = Ad := G.2.2.2.2.2.1
  have C2 := cM_of C G
  have h9 := w_X6_areAlike C2 σ p1 p2 p3 p4 ⟨_, h, by rw [hR]; exact ⟨rfl, rfl⟩⟩
  rw [e] at h9
  exact h9
theorem ck_X6_areAlike {K : Kx} {cc : ByteArray} {own : String} {nL d : Nat} {rty : Option FieldType} (C : CxM K cc own nL d rty) {σ : Mm} {p1 : Int32} {p2 : Int32} {p3 : Int32} {p4 : Int32} {τ : Mm} {r : Int32} (h : f_X6_areAlike σ p1 p2 p3 p4 = some (τ, r)) : CtI (kl K) (kD K) (ktys K) (kwf K) (kSt K) yX6_areAlike cX6_areAlike 5 .boolean 1 σ [.ref (kAd K 0), .int p1, .int p2, .int p3, .int p4] (τ, r) := cM_eq C (P := fun l D tys wf St => CtI l D tys wf St yX6_areAlike cX6_areAlike 5 .boolean 1 σ [.ref (kAd K 0), .int p1, .int p2, .int p3, .int p4] (τ, r)) (c_X6_areAlike _ _ _ _ h)
def f_X6_alike (σ : Mm) (p1 : Int32) (p2 : Int32) (p3 : Int32) (p4 : Int32) : Option (Mm × Int32) :=
  bn1 (f_X6_isNote σ p1 p2) (fun σ1 r1 => (if r1 = 0 then some (σ1, (-1)) else bn1 (f_X6_isNote σ1 p3 p4) (fun σ3 r3 => (if r3 = 0 then some (σ3, (-1)) else (if p1 = p3 then some (σ3, (-1)) else bn1 (f_X6_areAlike σ3 p1 p2 p3 p4) (fun σ6 r6 => (if r6 = 0 then some (σ6, 0) else some (σ6, 1))))))))
set_option maxHeartbeats 4000000 in
set_option maxRecDepth 100000 in
theorem w_X6_alike {K : Kx} (C : CxM K cX6_alike RX6 5 3 (some .int)) (σ : Mm) (p1 : Int32) (p2 : Int32) (p3 : Int32) (p4 : Int32) (hf : Sat (f_X6_alike σ p1 p2 p3 p4) (fun o => kRt K (some (.int o.2)) o.1)) : Gj K σ 0 [(0, .ref (kAd K 0)), (1, .int p1), (2, .int p2), (3, .int p3), (4, .int p4)] [] := by
  unfold f_X6_alike at hf
  have B := C.1
  refine g_aload_n B dX6_alike_0 rfl 0 rfl ?_
  refine g_iload_n B dX6_alike_1 rfl 1 rfl ?_
  refine g_iload_n B dX6_alike_2 rfl 2 rfl ?_
  obtain ⟨σ1, r1, h1, hf⟩ := sat_ca1 hf
  refine g_cVI (rest := []) B (ck_X6_isNote C h1) mo_X6_isNote wm_RX6_76 (by decide) (cM_o C) rfl rfl rfl (Nat.le_of_ble_eq_true rfl) dX6_alike_3 ?_
  refine g_if_eq (tgt := 24) B dX6_alike_6 (by decide) (fun c2 => ?_) (fun c2 => ?_)
  · have hf := sat_t hf c2
    refine g_iconst (v := (-1)) B dX6_alike_24 (by decide) ?_
    have hf := sat_some hf
    exact g_iret B rfl rfl dX6_alike_25 hf
  · have hf := sat_f hf c2
    refine g_aload_n B dX6_alike_9 rfl 0 rfl ?_
    refine g_iload_n B dX6_alike_10 rfl 3 rfl ?_
    refine g_iload B dX6_alike_11 4 rfl ?_
    obtain ⟨σ3, r3, h3, hf⟩ := sat_ca1 hf
    refine g_cVI (rest := []) B (ck_X6_isNote C h3) mo_X6_isNote wm_RX6_76 (by decide) (cM_o C) rfl rfl rfl (Nat.le_of_ble_eq_true rfl) dX6_alike_13 ?_
    refine g_if_eq (tgt := 24) B dX6_alike_16 (by decide) (fun c4 => ?_) (fun c4 => ?_)
    · have hf := sat_t hf c4
      refine g_iconst (v := (-1)) B dX6_alike_24 (by decide) ?_
      have hf := sat_some hf
      exact g_iret B rfl rfl dX6_alike_25 hf
    · have hf := sat_f hf c4
      refine g_iload_n B dX6_alike_19 rfl 1 rfl ?_
      refine g_iload_n B dX6_alike_20 rfl 3 rfl ?_
      refine g_icmp_ne (tgt := 26) B dX6_alike_21 (by decide) (fun c5 => ?_) (fun c5 => ?_)
      · have hf := sat_f hf c5
        refine g_aload_n B dX6_alike_26 rfl 0 rfl ?_
        refine g_iload_n B dX6_alike_27 rfl 1 rfl ?_
        refine g_iload_n B dX6_alike_28 rfl 2 rfl ?_
        refine g_iload_n B dX6_alike_29 rfl 3 rfl ?_
        refine g_iload B dX6_alike_30 4 rfl ?_
        obtain ⟨σ6, r6, h6, hf⟩ := sat_ca1 hf
        refine g_cVI (rest := []) B (ck_X6_areAlike C h6) mo_X6_areAlike wm_RX6_135 (by decide) (cM_o C) rfl rfl rfl (Nat.le_of_ble_eq_true rfl) dX6_alike_32 ?_
        refine g_if_eq (tgt := 42) B dX6_alike_35 (by decide) (fun c7 => ?_) (fun c7 => ?_)
        · have hf := sat_t hf c7
          refine g_iconst (v := 0) B dX6_alike_42 (by decide) ?_
          have hf := sat_some hf
          exact g_iret B rfl rfl dX6_alike_43 hf
        · have hf := sat_f hf c7
          refine g_iconst (v := 1) B dX6_alike_38 (by decide) ?_
          refine g_goto (tgt := 43) B dX6_alike_39 (by decide) ?_
          have hf := sat_some hf
          exact g_iret B rfl rfl dX6_alike_43 hf
      · have hf := sat_t hf c5
        refine g_iconst (v := (-1)) B dX6_alike_24 (by decide) ?_
        have hf := sat_some hf
        exact g_iret B rfl rfl dX6_alike_25 hf
theorem c_X6_alike (l : Launch) (D : va_G) (Ad : Nat → Nat) (cI : ClassId) {σ : Mm} {p1 : Int32} {p2 : Int32} {p3 : Int32} {p4 : Int32} {τ : Mm} {r : Int32} (h : f_X6_alike σ p1 p2 p3 p4 = some (τ, r)) : CtI l D (tysM cI) (wdM Ad cI) StM yX6_alike cX6_alike 5 .int 3 σ [.ref (Ad 0), .int p1, .int p2, .int p3, .int p4] (τ, r) := by
  refine metI (Ad := Ad) (cI := cI) (cP := cI) (cII := cI) (by decide) (Nat.le_of_ble_eq_true rfl) (wdG_ok _ _ _) stOK_M rfl (fun K C G hR => ?_)
  have e : kAd K = Ad := G.2.2.2.2.2.1
  have C2 := cM_of C G
  have h9 := w_X6_alike C2 σ p1 p2 p3 p4 ⟨_, h, by rw [hR]; exact ⟨rfl, rfl⟩⟩
  rw [e] at h9
  exact h9
theorem ck_X6_alike {K : Kx} {cc : ByteArray} {own : String} {nL d : Nat} {rty : Option FieldType} (C : CxM K cc own nL d rty) {σ : Mm} {p1 : Int32} {p2 : Int32} {p3 : Int32} {p4 : Int32} {τ : Mm} {r : Int32} (h : f_X6_alike σ p1 p2 p3 p4 = some (τ, r)) : CtI (kl K) (kD K) (ktys K) (kwf K) (kSt K) yX6_alike cX6_alike 5 .int 3 σ [.ref (kAd K 0), .int p1, .int p2, .int p3, .int p4] (τ, r) := cM_eq C (P := fun l D tys wf St => CtI l D tys wf St yX6_alike cX6_alike 5 .int 3 σ [.ref (kAd K 0), .int p1, .int p2, .int p3, .int p4] (τ, r)) (c_X6_alike _ _ _ _ h)
