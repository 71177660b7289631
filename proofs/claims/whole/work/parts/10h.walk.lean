def f_X6_without_s4 (σ1 : Mm) (v1_1 : Int32) (v1_2 : Int32) : Option ((Mm × Int32 × Int32) ⊕ (Mm × Int32)) :=
  (if 3 ≤ v1_2 then some (.inr (σ1, v1_1)) else bn1 (f_X6_makeFingers σ1 v1_2) (fun σ4 r4 => (if r4 = 0 then some (.inl (σ4, (v1_1 + 1), (v1_2 + 1))) else some (.inl (σ4, (v1_1 + 0), (v1_2 + 1))))))
def f_X6_without (σ : Mm) : Option (Mm × Int32) :=
  bn1 (lq2 f_X6_without_s4 fu σ 0 0) (fun σ2 v2_1 => some (σ2, v2_1))
set_option maxHeartbeats 4000000 in
set_option maxRecDepth 100000 in
theorem w_X6_without {K : Kx} (C : CxM K cX6_without RX6 4 5 (some .int)) (σ : Mm) (hf : Sat (f_X6_without σ ) (fun o => kRt K (some (.int o.2)) o.1)) : Gj K σ 0 [(0, .ref (kAd K 0))] [] := by
  unfold f_X6_without at hf
  have B := C.1
  refine g_iconst (v := 0) B dX6_without_0 (by decide) ?_
  refine g_istore_n B [(0, .ref (kAd K 0)), (1, .int 0)] dX6_without_1 rfl (by decide) [1, 0] rfl ?_
  refine g_iconst (v := 0) B dX6_without_2 (by decide) ?_
  refine g_istore_n B [(0, .ref (kAd K 0)), (1, .int 0), (2, .int 0)] dX6_without_3 rfl (by decide) [1, 2, 0] rfl ?_
  have hf := sat_cu1 (G := fun σ2 v2_1 => Gj K σ2 33 [(1, .int v2_1)] []) hf (by
    intro σ2 v2_1 hf
    refine g_iload_n B dX6_without_33 rfl 0 rfl ?_
    have hf := sat_some hf
    exact g_iret B rfl rfl dX6_without_34 hf)
  refine lqr2 (Gh := fun σ1 v1_1 v1_2 => Gj K σ1 4 [(0, .ref (kAd K 0)), (1, .int v1_1), (2, .int v1_2)] []) ?_ fu σ 0 0 hf
  intro σ1 v1_1 v1_2 hf
  unfold f_X6_without_s4 at hf
  refine g_iload_n B dX6_without_4 rfl 2 rfl ?_
  refine g_iconst (v := 3) B dX6_without_5 (by decide) ?_
  refine g_icmp_ge (tgt := 33) B dX6_without_6 (by decide) (fun c3 => ?_) (fun c3 => ?_)
  · have hf := sat_t hf c3
    have hf := sum_r (sat_some hf)
    exact g_sub hf [1] rfl
  · have hf := sat_f hf c3
    refine g_aload_n B dX6_without_9 rfl 0 rfl ?_
    refine g_iload_n B dX6_without_10 rfl 2 rfl ?_
    obtain ⟨σ4, r4, h4, hf⟩ := sat_ca1 hf
    refine g_cVI (rest := []) B (ck_X6_makeFingers C h4) mo_X6_makeFingers wm_RX6_123 (by decide) (cM_o C) rfl rfl rfl (Nat.le_of_ble_eq_true rfl) dX6_without_11 ?_
    refine g_istore_n B [(0, .ref (kAd K 0)), (1, .int v1_1), (2, .int v1_2), (3, .int r4)] dX6_without_14 rfl (by decide) [1, 2, 3, 0] rfl ?_
    refine g_iload_n B dX6_without_15 rfl 1 rfl ?_
    refine g_iload_n B dX6_without_16 rfl 3 rfl ?_
    refine g_if_eq (tgt := 24) B dX6_without_17 (by decide) (fun c5 => ?_) (fun c5 => ?_)
    · have hf := sat_t hf c5
      refine g_iconst (v := 1) B dX6_without_24 (by decide) ?_
      refine g_iadd B dX6_without_25 ?_
      refine g_istore_n B [(0, .ref (kAd K 0)), (1, .int ((v1_1 + 1))), (2, .int v1_2), (3, .int r4)] dX6_without_26 rfl (by decide) [1, 0, 2, 3] rfl ?_
      refine g_iinc B (v1_2 + 1) [(0, .ref (kAd K 0)), (1, .int ((v1_1 + 1))), (2, .int ((v1_2 + 1))), (3, .int r4)] dX6_without_27 2 rfl rfl (by decide) [1, 2, 0, 3] rfl ?_
      refine g_goto (tgt := 4) B dX6_without_30 (by decide) ?_
      have hf := sum_l (sat_some hf)
      exact g_sub hf [0, 1, 2] rfl
    · have hf := sat_f hf c5
      refine g_iconst (v := 0) B dX6_without_20 (by decide) ?_
      refine g_goto (tgt := 25) B dX6_without_21 (by decide) ?_
      refine g_iadd B dX6_without_25 ?_
      refine g_istore_n B [(0, .ref (kAd K 0)), (1, .int ((v1_1 + 0))), (2, .int v1_2), (3, .int r4)] dX6_without_26 rfl (by decide) [1, 0, 2, 3] rfl ?_
      refine g_iinc B (v1_2 + 1) [(0, .ref (kAd K 0)), (1, .int ((v1_1 + 0))), (2, .int ((v1_2 + 1))), (3, .int r4)] dX6_without_27 2 rfl rfl (by decide) [1, 2, 0, 3] rfl ?_
      refine g_goto (tgt := 4) B dX6_without_30 (by decide) ?_
      have hf := sum_l (sat_some hf)
      exact g_sub hf [0, 1, 2] rfl
theorem c_X6_without (l : Launch) (D : va_G) (Ad : Nat → Nat) (cI : ClassId) {σ : Mm} {τ : Mm} {r : Int32} (h : f_X6_without σ  = some (τ, r)) : CtI l D (tysM cI) (wdM Ad cI) StM yX6_without cX6_without 4 .int 5 σ [.ref (Ad 0)] (τ, r) := by
  refine metI (Ad := Ad) (cI := cI) (cP := cI) (cII := cI) (by decide) (Nat.le_of_ble_eq_true rfl) (wdG_ok _ _ _) stOK_M rfl (fun K C G hR => ?_)
  have e : kAd K = Ad := G.2.2.2.2.2.1
  have C2 := cM_of C G
  have h9 := w_X6_without C2 σ  ⟨_, h, by rw [hR]; exact ⟨rfl, rfl⟩⟩
  rw [e] at h9
  exact h9
theorem ck_X6_without {K : Kx} {cc : ByteArray} {own : String} {nL d : Nat} {rty : Option FieldType} (C : CxM K cc own nL d rty) {σ : Mm} {τ : Mm} {r : Int32} (h : f_X6_without σ  = some (τ, r)) : CtI (kl K) (kD K) (ktys K) (kwf K) (kSt K) yX6_without cX6_without 4 .int 5 σ [.ref (kAd K 0)] (τ, r) := cM_eq C (P := fun l D tys wf St => CtI l D tys wf St yX6_without cX6_without 4 .int 5 σ [.ref (kAd K 0)] (τ, r)) (c_X6_without _ _ _ _ h)
def f_X6_many (σ : Mm) (p1 : Int32) : Option (Mm × Int32) :=
  (if p1 = 0 then chk (inb p1 3) (some (σ, (σ 2 p1.toNatClampNeg))) else (if p1 = 1 then chk (inb p1 3) (some (σ, (σ 2 p1.toNatClampNeg))) else (if p1 = 2 then chk (inb p1 3) (some (σ, (σ 2 p1.toNatClampNeg))) else (if p1 = 3 then bn1 (f_X6_alikes σ 0) (fun σ5 r5 => some (σ5, r5)) else (if p1 = 4 then bn1 (f_X6_notesThat σ 1) (fun σ6 r6 => some (σ6, r6)) else (if p1 = 5 then bn1 (f_X6_notesThat σ 0) (fun σ7 r7 => some (σ7, r7)) else (if p1 = 6 then bn1 (f_X6_without σ) (fun σ8 r8 => some (σ8, r8)) else some (σ, (-1)))))))))
set_option maxHeartbeats 4000000 in
set_option maxRecDepth 100000 in
theorem w_X6_many {K : Kx} (C : CxM K cX6_many RX6 2 6 (some .int)) (σ : Mm) (p1 : Int32) (hf : Sat (f_X6_many σ p1) (fun o => kRt K (some (.int o.2)) o.1)) : Gj K σ 0 [(0, .ref (kAd K 0)), (1, .int p1)] [] := by
  unfold f_X6_many at hf
  have B := C.1
  refine g_iload_n B dX6_many_0 rfl 1 rfl ?_
  by_cases c1_0 : p1 = 0
  · have hf := sat_t hf c1_0
    refine g_tabIn (tgt := 44) (off := 43) B c1_0 dX6_many_1 (by decide) (by decide) (by decide) (by decide) ?_
    refine g_aload_n B dX6_many_44 rfl 0 rfl ?_
    refine m_get_notes C wf_RX6_13 dX6_many_45 ?_
    refine g_iload_n B dX6_many_48 rfl 1 rfl ?_
    obtain ⟨h2, hf⟩ := sat_chk hf
    refine m_iald C 1 (by decide) rfl h2 dX6_many_49 ?_
    have hf := sat_some hf
    exact g_iret B rfl rfl dX6_many_50 hf
  · have hf := sat_f hf c1_0
    by_cases c1_1 : p1 = 1
    · have hf := sat_t hf c1_1
      refine g_tabIn (tgt := 44) (off := 43) B c1_1 dX6_many_1 (by decide) (by decide) (by decide) (by decide) ?_
      refine g_aload_n B dX6_many_44 rfl 0 rfl ?_
      refine m_get_notes C wf_RX6_13 dX6_many_45 ?_
      refine g_iload_n B dX6_many_48 rfl 1 rfl ?_
      obtain ⟨h3, hf⟩ := sat_chk hf
      refine m_iald C 1 (by decide) rfl h3 dX6_many_49 ?_
      have hf := sat_some hf
      exact g_iret B rfl rfl dX6_many_50 hf
    · have hf := sat_f hf c1_1
      by_cases c1_2 : p1 = 2
      · have hf := sat_t hf c1_2
        refine g_tabIn (tgt := 44) (off := 43) B c1_2 dX6_many_1 (by decide) (by decide) (by decide) (by decide) ?_
        refine g_aload_n B dX6_many_44 rfl 0 rfl ?_
        refine m_get_notes C wf_RX6_13 dX6_many_45 ?_
        refine g_iload_n B dX6_many_48 rfl 1 rfl ?_
        obtain ⟨h4, hf⟩ := sat_chk hf
        refine m_iald C 1 (by decide) rfl h4 dX6_many_49 ?_
        have hf := sat_some hf
        exact g_iret B rfl rfl dX6_many_50 hf
      · have hf := sat_f hf c1_2
        by_cases c1_3 : p1 = 3
        · have hf := sat_t hf c1_3
          refine g_tabIn (tgt := 51) (off := 50) B c1_3 dX6_many_1 (by decide) (by decide) (by decide) (by decide) ?_
          refine g_aload_n B dX6_many_51 rfl 0 rfl ?_
          refine g_iconst (v := 0) B dX6_many_52 (by decide) ?_
          obtain ⟨σ5, r5, h5, hf⟩ := sat_ca1 hf
          refine g_cVI (rest := []) B (ck_X6_alikes C h5) mo_X6_alikes wm_RX6_142 (by decide) (cM_o C) rfl rfl rfl (Nat.le_of_ble_eq_true rfl) dX6_many_53 ?_
          have hf := sat_some hf
          exact g_iret B rfl rfl dX6_many_56 hf
        · have hf := sat_f hf c1_3
          by_cases c1_4 : p1 = 4
          · have hf := sat_t hf c1_4
            refine g_tabIn (tgt := 57) (off := 56) B c1_4 dX6_many_1 (by decide) (by decide) (by decide) (by decide) ?_
            refine g_aload_n B dX6_many_57 rfl 0 rfl ?_
            refine g_iconst (v := 1) B dX6_many_58 (by decide) ?_
            obtain ⟨σ6, r6, h6, hf⟩ := sat_ca1 hf
            refine g_cVI (rest := []) B (ck_X6_notesThat C h6) mo_X6_notesThat wm_RX6_146 (by decide) (cM_o C) rfl rfl rfl (Nat.le_of_ble_eq_true rfl) dX6_many_59 ?_
            have hf := sat_some hf
            exact g_iret B rfl rfl dX6_many_62 hf
          · have hf := sat_f hf c1_4
            by_cases c1_5 : p1 = 5
            · have hf := sat_t hf c1_5
              refine g_tabIn (tgt := 63) (off := 62) B c1_5 dX6_many_1 (by decide) (by decide) (by decide) (by decide) ?_
              refine g_aload_n B dX6_many_63 rfl 0 rfl ?_
              refine g_iconst (v := 0) B dX6_many_64 (by decide) ?_
              obtain ⟨σ7, r7, h7, hf⟩ := sat_ca1 hf
              refine g_cVI (rest := []) B (ck_X6_notesThat C h7) mo_X6_notesThat wm_RX6_146 (by decide) (cM_o C) rfl rfl rfl (Nat.le_of_ble_eq_true rfl) dX6_many_65 ?_
              have hf := sat_some hf
              exact g_iret B rfl rfl dX6_many_68 hf
            · have hf := sat_f hf c1_5
              by_cases c1_6 : p1 = 6
              · have hf := sat_t hf c1_6
                refine g_tabIn (tgt := 69) (off := 68) B c1_6 dX6_many_1 (by decide) (by decide) (by decide) (by decide) ?_
                refine g_aload_n B dX6_many_69 rfl 0 rfl ?_
                obtain ⟨σ8, r8, h8, hf⟩ := sat_ca1 hf
                refine g_cVI (rest := []) B (ck_X6_without C h8) mo_X6_without wm_RX6_149 (by decide) (cM_o C) rfl rfl rfl (Nat.le_of_ble_eq_true rfl) dX6_many_70 ?_
                have hf := sat_some hf
                exact g_iret B rfl rfl dX6_many_73 hf
              · have hf := sat_f hf c1_6
                refine g_tabOut (tgt := 74) B (by
                  have z0 := ne_toI c1_0 (z := 0) (by decide)
                  have z1 := ne_toI c1_1 (z := 1) (by decide)
                  have z2 := ne_toI c1_2 (z := 2) (by decide)
                  have z3 := ne_toI c1_3 (z := 3) (by decide)
                  have z4 := ne_toI c1_4 (z := 4) (by decide)
                  have z5 := ne_toI c1_5 (z := 5) (by decide)
                  have z6 := ne_toI c1_6 (z := 6) (by decide)
                  omega) dX6_many_1 (by decide) ?_
                refine g_iconst (v := (-1)) B dX6_many_74 (by decide) ?_
                have hf := sat_some hf
                exact g_iret B rfl rfl dX6_many_75 hf
theorem c_X6_many (l : Launch) (D : va_G) (Ad : Nat → Nat) (cI : ClassId) {σ : Mm} {p1 : Int32} {τ : Mm} {r : Int32} (h : f_X6_many σ p1 = some (τ, r)) : CtI l D (tysM cI) (wdM Ad cI) StM yX6_many cX6_many 2 .int 6 σ [.ref (Ad 0), .int p1] (τ, r) := by
  refine metI (Ad := Ad) (cI := cI) (cP := cI) (cII := cI) (by decide) (Nat.le_of_ble_eq_true rfl) (wdG_ok _ _ _) stOK_M rfl (fun K C G hR => ?_)
  have e : kAd K = Ad := G.2.2.2.2.2.1
  have C2 := cM_of C G
  have h9 := w_X6_many C2 σ p1 ⟨_, h, by rw [hR]; exact ⟨rfl, rfl⟩⟩
  rw [e] at h9
  exact h9
theorem ck_X6_many {K : Kx} {cc : ByteArray} {own : String} {nL d : Nat} {rty : Option FieldType} (C : CxM K cc own nL d rty) {σ : Mm} {p1 : Int32} {τ : Mm} {r : Int32} (h : f_X6_many σ p1 = some (τ, r)) : CtI (kl K) (kD K) (ktys K) (kwf K) (kSt K) yX6_many cX6_many 2 .int 6 σ [.ref (kAd K 0), .int p1] (τ, r) := cM_eq C (P := fun l D tys wf St => CtI l D tys wf St yX6_many cX6_many 2 .int 6 σ [.ref (kAd K 0), .int p1] (τ, r)) (c_X6_many _ _ _ _ h)
