def f_X5_countDoubles_s4 (σ1 : Mm) (v1_1 : Int32) (v1_2 : Int32) : Option ((Mm × Int32 × Int32) ⊕ (Mm × Int32)) :=
  (if 3 ≤ v1_2 then some (.inr (σ1, v1_1)) else chk (inb v1_2 3) (chk (kdC (31 + 15 * v1_2.toNatClampNeg) == 2) (bn1 (f_X3_countDoubles σ1 (31 + 15 * v1_2.toNatClampNeg)) (fun σ5 r5 => some (.inl (σ5, (v1_1 + r5), (v1_2 + 1)))))))
def f_X5_countDoubles (σ : Mm) : Option (Mm × Int32) :=
  bn1 (lq2 f_X5_countDoubles_s4 fu σ 0 0) (fun σ2 v2_1 => some (σ2, v2_1))
set_option maxHeartbeats 4000000 in
set_option maxRecDepth 100000 in
theorem w_X5_countDoubles {K : Kx} (C : CxC K cX5_countDoubles RX5 3 2 (some .int)) (σ : Mm) (hf : Sat (f_X5_countDoubles σ ) (fun o => kRt K (some (.int o.2)) o.1)) : Gj K σ 0 [(0, .ref (kAd K 0))] [] := by
  unfold f_X5_countDoubles at hf
  have B := C.1
  refine g_iconst (v := 0) B dX5_countDoubles_0 (by decide) ?_
  refine g_istore_n B [(0, .ref (kAd K 0)), (1, .int 0)] dX5_countDoubles_1 rfl (by decide) [1, 0] rfl ?_
  refine g_iconst (v := 0) B dX5_countDoubles_2 (by decide) ?_
  refine g_istore_n B [(0, .ref (kAd K 0)), (1, .int 0), (2, .int 0)] dX5_countDoubles_3 rfl (by decide) [1, 2, 0] rfl ?_
  have hf := sat_cu1 (G := fun σ2 v2_1 => Gj K σ2 27 [(1, .int v2_1)] []) hf (by
    intro σ2 v2_1 hf
    refine g_iload_n B dX5_countDoubles_27 rfl 0 rfl ?_
    have hf := sat_some hf
    exact g_iret B rfl rfl dX5_countDoubles_28 hf)
  refine lqr2 (Gh := fun σ1 v1_1 v1_2 => Gj K σ1 4 [(0, .ref (kAd K 0)), (1, .int v1_1), (2, .int v1_2)] []) ?_ fu σ 0 0 hf
  intro σ1 v1_1 v1_2 hf
  unfold f_X5_countDoubles_s4 at hf
  refine g_iload_n B dX5_countDoubles_4 rfl 2 rfl ?_
  refine g_iconst (v := 3) B dX5_countDoubles_5 (by decide) ?_
  refine g_icmp_ge (tgt := 27) B dX5_countDoubles_6 (by decide) (fun c3 => ?_) (fun c3 => ?_)
  · have hf := sat_t hf c3
    have hf := sum_r (sat_some hf)
    exact g_sub hf [1] rfl
  · have hf := sat_f hf c3
    refine g_iload_n B dX5_countDoubles_9 rfl 1 rfl ?_
    refine g_aload_n B dX5_countDoubles_10 rfl 0 rfl ?_
    refine c_get_F_parts C wf_RX5_16 dX5_countDoubles_11 ?_
    refine g_iload_n B dX5_countDoubles_14 rfl 2 rfl ?_
    obtain ⟨h4, hf⟩ := sat_chk hf
    refine c_aald2 C h4 dX5_countDoubles_15 ?_
    obtain ⟨h6, hf⟩ := sat_chk hf
    obtain ⟨σ5, r5, h5, hf⟩ := sat_ca1 hf
    refine g_cVI (rest := [.int v1_1]) B (ck_X3_countDoubles C h5) mo_X3_countDoubles wm_RX5_202 (by decide) (cC_o2 C (eq_of_beq h6)) rfl rfl rfl (Nat.le_of_ble_eq_true rfl) dX5_countDoubles_16 ?_
    refine g_iadd B dX5_countDoubles_19 ?_
    refine g_istore_n B [(0, .ref (kAd K 0)), (1, .int ((v1_1 + r5))), (2, .int v1_2)] dX5_countDoubles_20 rfl (by decide) [1, 0, 2] rfl ?_
    refine g_iinc B (v1_2 + 1) [(0, .ref (kAd K 0)), (1, .int ((v1_1 + r5))), (2, .int ((v1_2 + 1)))] dX5_countDoubles_21 2 rfl rfl (by decide) [1, 2, 0] rfl ?_
    refine g_goto (tgt := 4) B dX5_countDoubles_24 (by decide) ?_
    have hf := sum_l (sat_some hf)
    exact g_sub hf [0, 1, 2] rfl
theorem c_X5_countDoubles (l : Launch) (D : va_G) (Ad : Nat → Nat) (cI cP cII : ClassId) {σ : Mm} {τ : Mm} {r : Int32} (h : f_X5_countDoubles σ  = some (τ, r)) : CtI l D (tysC cI cP cII) (wdC Ad cI cP cII) StC yX5_countDoubles cX5_countDoubles 3 .int 2 σ [.ref (Ad 0)] (τ, r) := by
  refine metI (Ad := Ad) (cI := cI) (cP := cP) (cII := cII) (by decide) (Nat.le_of_ble_eq_true rfl) (wdG_ok _ _ _) stOK_C rfl (fun K C G hR => ?_)
  have e : kAd K = Ad := G.2.2.2.2.2.1
  have C2 := cC_of C G
  have h9 := w_X5_countDoubles C2 σ  ⟨_, h, by rw [hR]; exact ⟨rfl, rfl⟩⟩
  rw [e] at h9
  exact h9
theorem ck_X5_countDoubles {K : Kx} {cc : ByteArray} {own : String} {nL d : Nat} {rty : Option FieldType} (C : CxC K cc own nL d rty) {σ : Mm} {τ : Mm} {r : Int32} (h : f_X5_countDoubles σ  = some (τ, r)) : CtI (kl K) (kD K) (ktys K) (kwf K) (kSt K) yX5_countDoubles cX5_countDoubles 3 .int 2 σ [.ref (kAd K 0)] (τ, r) := cC_eq C (P := fun l D tys wf St => CtI l D tys wf St yX5_countDoubles cX5_countDoubles 3 .int 2 σ [.ref (kAd K 0)] (τ, r)) (c_X5_countDoubles _ _ _ _ _ _ h)
def f_X5_countSlurred_s4 (σ1 : Mm) (v1_1 : Int32) (v1_2 : Int32) : Option ((Mm × Int32 × Int32) ⊕ (Mm × Int32)) :=
  (if 3 ≤ v1_2 then some (.inr (σ1, v1_1)) else chk (inb v1_2 3) (chk (kdC (31 + 15 * v1_2.toNatClampNeg) == 2) (bn1 (f_X3_countSlurred σ1 (31 + 15 * v1_2.toNatClampNeg)) (fun σ5 r5 => some (.inl (σ5, (v1_1 + r5), (v1_2 + 1)))))))
def f_X5_countSlurred (σ : Mm) : Option (Mm × Int32) :=
  bn1 (lq2 f_X5_countSlurred_s4 fu σ 0 0) (fun σ2 v2_1 => some (σ2, v2_1))
set_option maxHeartbeats 4000000 in
set_option maxRecDepth 100000 in
theorem w_X5_countSlurred {K : Kx} (C : CxC K cX5_countSlurred RX5 3 2 (some .int)) (σ : Mm) (hf : Sat (f_X5_countSlurred σ ) (fun o => kRt K (some (.int o.2)) o.1)) : Gj K σ 0 [(0, .ref (kAd K 0))] [] := by
  unfold f_X5_countSlurred at hf
  have B := C.1
  refine g_iconst (v := 0) B dX5_countSlurred_0 (by decide) ?_
  refine g_istore_n B [(0, .ref (kAd K 0)), (1, .int 0)] dX5_countSlurred_1 rfl (by decide) [1, 0] rfl ?_
  refine g_iconst (v := 0) B dX5_countSlurred_2 (by decide) ?_
  refine g_istore_n B [(0, .ref (kAd K 0)), (1, .int 0), (2, .int 0)] dX5_countSlurred_3 rfl (by decide) [1, 2, 0] rfl ?_
  have hf := sat_cu1 (G := fun σ2 v2_1 => Gj K σ2 27 [(1, .int v2_1)] []) hf (by
    intro σ2 v2_1 hf
    refine g_iload_n B dX5_countSlurred_27 rfl 0 rfl ?_
    have hf := sat_some hf
    exact g_iret B rfl rfl dX5_countSlurred_28 hf)
  refine lqr2 (Gh := fun σ1 v1_1 v1_2 => Gj K σ1 4 [(0, .ref (kAd K 0)), (1, .int v1_1), (2, .int v1_2)] []) ?_ fu σ 0 0 hf
  intro σ1 v1_1 v1_2 hf
  unfold f_X5_countSlurred_s4 at hf
  refine g_iload_n B dX5_countSlurred_4 rfl 2 rfl ?_
  refine g_iconst (v := 3) B dX5_countSlurred_5 (by decide) ?_
  refine g_icmp_ge (tgt := 27) B dX5_countSlurred_6 (by decide) (fun c3 => ?_) (fun c3 => ?_)
  · have hf := sat_t hf c3
    have hf := sum_r (sat_some hf)
    exact g_sub hf [1] rfl
  · have hf := sat_f hf c3
    refine g_iload_n B dX5_countSlurred_9 rfl 1 rfl ?_
    refine g_aload_n B dX5_countSlurred_10 rfl 0 rfl ?_
    refine c_get_F_parts C wf_RX5_16 dX5_countSlurred_11 ?_
    refine g_iload_n B dX5_countSlurred_14 rfl 2 rfl ?_
    obtain ⟨h4, hf⟩ := sat_chk hf
    refine c_aald2 C h4 dX5_countSlurred_15 ?_
    obtain ⟨h6, hf⟩ := sat_chk hf
    obtain ⟨σ5, r5, h5, hf⟩ := sat_ca1 hf
    refine g_cVI (rest := [.int v1_1]) B (ck_X3_countSlurred C h5) mo_X3_countSlurred wm_RX5_148 (by decide) (cC_o2 C (eq_of_beq h6)) rfl rfl rfl (Nat.le_of_ble_eq_true rfl) dX5_countSlurred_16 ?_
    refine g_iadd B dX5_countSlurred_19 ?_
    refine g_istore_n B [(0, .ref (kAd K 0)), (1, .int ((v1_1 + r5))), (2, .int v1_2)] dX5_countSlurred_20 rfl (by decide) [1, 0, 2] rfl ?_
    refine g_iinc B (v1_2 + 1) [(0, .ref (kAd K 0)), (1, .int ((v1_1 + r5))), (2, .int ((v1_2 + 1)))] dX5_countSlurred_21 2 rfl rfl (by decide) [1, 2, 0] rfl ?_
    refine g_goto (tgt := 4) B dX5_countSlurred_24 (by decide) ?_
    have hf := sum_l (sat_some hf)
    exact g_sub hf [0, 1, 2] rfl
theorem c_X5_countSlurred (l : Launch) (D : va_G) (Ad : Nat → Nat) (cI cP cII : ClassId) {σ : Mm} {τ : Mm} {r : Int32} (h : f_X5_countSlurred σ  = some (τ, r)) : CtI l D (tysC cI cP cII) (wdC Ad cI cP cII) StC yX5_countSlurred cX5_countSlurred 3 .int 2 σ [.ref (Ad 0)] (τ, r) := by
  refine metI (Ad := Ad) (cI := cI) (cP := cP) (cII := cII) (by decide) (Nat.le_of_ble_eq_true rfl) (wdG_ok _ _ _) stOK_C rfl (fun K C G hR => ?_)
  have e : kAd K = Ad := G.2.2.2.2.2.1
  have C2 := cC_of C G
  have h9 := w_X5_countSlurred C2 σ  ⟨_, h, by rw [hR]; exact ⟨rfl, rfl⟩⟩
  rw [e] at h9
  exact h9
theorem ck_X5_countSlurred {K : Kx} {cc : ByteArray} {own : String} {nL d : Nat} {rty : Option FieldType} (C : CxC K cc own nL d rty) {σ : Mm} {τ : Mm} {r : Int32} (h : f_X5_countSlurred σ  = some (τ, r)) : CtI (kl K) (kD K) (ktys K) (kwf K) (kSt K) yX5_countSlurred cX5_countSlurred 3 .int 2 σ [.ref (kAd K 0)] (τ, r) := cC_eq C (P := fun l D tys wf St => CtI l D tys wf St yX5_countSlurred cX5_countSlurred 3 .int 2 σ [.ref (kAd K 0)] (τ, r)) (c_X5_countSlurred _ _ _ _ _ _ h)
def f_X5_countWithoutFingering_s4 (σ1 : Mm) (v1_1 : Int32) (v1_2 : Int32) : Option ((Mm × Int32 × Int32) ⊕ (Mm × Int32)) :=
  (if 3 ≤ v1_2 then some (.inr (σ1, v1_1)) else chk (inb v1_2 3) (bn1 (f_X5_hasFingering σ1 (31 + 15 * v1_2.toNatClampNeg)) (fun σ5 r5 => (if r5 = 0 then some (.inl (σ5, (v1_1 + 1), (v1_2 + 1))) else some (.inl (σ5, v1_1, (v1_2 + 1)))))))
def f_X5_countWithoutFingering (σ : Mm) : Option (Mm × Int32) :=
  bn1 (lq2 f_X5_countWithoutFingering_s4 fu σ 0 0) (fun σ2 v2_1 => some (σ2, v2_1))
set_option maxHeartbeats 4000000 in
set_option maxRecDepth 100000 in
theorem w_X5_countWithoutFingering {K : Kx} (C : CxC K cX5_countWithoutFingering RX5 3 6 (some .int)) (σ : Mm) (hf : Sat (f_X5_countWithoutFingering σ ) (fun o => kRt K (some (.int o.2)) o.1)) : Gj K σ 0 [(0, .ref (kAd K 0))] [] := by
  unfold f_X5_countWithoutFingering at hf
  have B := C.1
  refine g_iconst (v := 0) B dX5_countWithoutFingering_0 (by decide) ?_
  refine g_istore_n B [(0, .ref (kAd K 0)), (1, .int 0)] dX5_countWithoutFingering_1 rfl (by decide) [1, 0] rfl ?_
  refine g_iconst (v := 0) B dX5_countWithoutFingering_2 (by decide) ?_
  refine g_istore_n B [(0, .ref (kAd K 0)), (1, .int 0), (2, .int 0)] dX5_countWithoutFingering_3 rfl (by decide) [1, 2, 0] rfl ?_
  have hf := sat_cu1 (G := fun σ2 v2_1 => Gj K σ2 31 [(1, .int v2_1)] []) hf (by
    intro σ2 v2_1 hf
    refine g_iload_n B dX5_countWithoutFingering_31 rfl 0 rfl ?_
    have hf := sat_some hf
    exact g_iret B rfl rfl dX5_countWithoutFingering_32 hf)
  refine lqr2 (Gh := fun σ1 v1_1 v1_2 => Gj K σ1 4 [(0, .ref (kAd K 0)), (1, .int v1_1), (2, .int v1_2)] []) ?_ fu σ 0 0 hf
  intro σ1 v1_1 v1_2 hf
  unfold f_X5_countWithoutFingering_s4 at hf
  refine g_iload_n B dX5_countWithoutFingering_4 rfl 2 rfl ?_
  refine g_iconst (v := 3) B dX5_countWithoutFingering_5 (by decide) ?_
  refine g_icmp_ge (tgt := 31) B dX5_countWithoutFingering_6 (by decide) (fun c3 => ?_) (fun c3 => ?_)
  · have hf := sat_t hf c3
    have hf := sum_r (sat_some hf)
    exact g_sub hf [1] rfl
  · have hf := sat_f hf c3
    refine g_aload_n B dX5_countWithoutFingering_9 rfl 0 rfl ?_
    refine g_aload_n B dX5_countWithoutFingering_10 rfl 0 rfl ?_
    refine c_get_F_parts C wf_RX5_16 dX5_countWithoutFingering_11 ?_
    refine g_iload_n B dX5_countWithoutFingering_14 rfl 2 rfl ?_
    obtain ⟨h4, hf⟩ := sat_chk hf
    refine c_aald2 C h4 dX5_countWithoutFingering_15 ?_
    obtain ⟨σ5, r5, h5, hf⟩ := sat_ca1 hf
    refine g_cVI (rest := []) B (ck_X5_hasFingering C h5) mo_X5_hasFingering wm_RX5_88 (by decide) (cC_o3 C) rfl rfl rfl (Nat.le_of_ble_eq_true rfl) dX5_countWithoutFingering_16 ?_
    refine g_if_ne (tgt := 25) B dX5_countWithoutFingering_19 (by decide) (fun c6 => ?_) (fun c6 => ?_)
    · have hf := sat_f hf c6
      refine g_iinc B (v1_2 + 1) [(0, .ref (kAd K 0)), (1, .int v1_1), (2, .int ((v1_2 + 1)))] dX5_countWithoutFingering_25 2 rfl rfl (by decide) [1, 2, 0] rfl ?_
      refine g_goto (tgt := 4) B dX5_countWithoutFingering_28 (by decide) ?_
      have hf := sum_l (sat_some hf)
      exact g_sub hf [0, 1, 2] rfl
    · have hf := sat_t hf c6
      refine g_iinc B (v1_1 + 1) [(0, .ref (kAd K 0)), (1, .int ((v1_1 + 1))), (2, .int v1_2)] dX5_countWithoutFingering_22 1 rfl rfl (by decide) [1, 0, 2] rfl ?_
      refine g_iinc B (v1_2 + 1) [(0, .ref (kAd K 0)), (1, .int ((v1_1 + 1))), (2, .int ((v1_2 + 1)))] dX5_countWithoutFingering_25 2 rfl rfl (by decide) [1, 2, 0] rfl ?_
      refine g_goto (tgt := 4) B dX5_countWithoutFingering_28 (by decide) ?_
      have hf := sum_l (sat_some hf)
      exact g_sub hf [0, 1, 2] rfl
theorem c_X5_countWithoutFingering (l : Launch) (D : va_G) (Ad : Nat → Nat) (cI cP cII : ClassId) {σ : Mm} {τ : Mm} {r : Int32} (h : f_X5_countWithoutFingering σ  = some (τ, r)) : CtI l D (tysC cI cP cII) (wdC Ad cI cP cII) StC yX5_countWithoutFingering cX5_countWithoutFingering 3 .int 6 σ [.ref (Ad 0)] (τ, r) := by
  refine metI (Ad := Ad) (cI := cI) (cP := cP) (cII := cII) (by decide) (Nat.le_of_ble_eq_true rfl) (wdG_ok _ _ _) stOK_C rfl (fun K C G hR => ?_)
  have e : kAd K = Ad := G.2.2.2.2.2.1
  have C2 := cC_of C G
  have h9 := w_X5_countWithoutFingering C2 σ  ⟨_, h, by rw [hR]; exact ⟨rfl, rfl⟩⟩
  rw [e] at h9
  exact h9
theorem ck_X5_countWithoutFingering {K : Kx} {cc : ByteArray} {own : String} {nL d : Nat} {rty : Option FieldType} (C : CxC K cc own nL d rty) {σ : Mm} {τ : Mm} {r : Int32} (h : f_X5_countWithoutFingering σ  = some (τ, r)) : CtI (kl K) (kD K) (ktys K) (kwf K) (kSt K) yX5_countWithoutFingering cX5_countWithoutFingering 3 .int 6 σ [.ref (kAd K 0)] (τ, r) := cC_eq C (P := fun l D tys wf St => CtI l D tys wf St yX5_countWithoutFingering cX5_countWithoutFingering 3 .int 6 σ [.ref (kAd K 0)] (τ, r)) (c_X5_countWithoutFingering _ _ _ _ _ _ h)
def f_X5_many (σ : Mm) (p1 : Int32) : Option (Mm × Int32) :=
  (if p1 = 0 then chk (inb p1 3) (chk (kdC (31 + 15 * p1.toNatClampNeg) == 2) (some (σ, (σ ((31 + 15 * p1.toNatClampNeg)) 0)))) else (if p1 = 1 then chk (inb p1 3) (chk (kdC (31 + 15 * p1.toNatClampNeg) == 2) (some (σ, (σ ((31 + 15 * p1.toNatClampNeg)) 0)))) else (if p1 = 2 then chk (inb p1 3) (chk (kdC (31 + 15 * p1.toNatClampNeg) == 2) (some (σ, (σ ((31 + 15 * p1.toNatClampNeg)) 0)))) else (if p1 = 3 then bn1 (f_X5_countAlike σ) (fun σ8 r8 => some (σ8, r8)) else (if p1 = 4 then bn1 (f_X5_countDoubles σ) (fun σ9 r9 => some (σ9, r9)) else (if p1 = 5 then bn1 (f_X5_countSlurred σ) (fun σ10 r10 => some (σ10, r10)) else (if p1 = 6 then bn1 (f_X5_countWithoutFingering σ) (fun σ11 r11 => some (σ11, r11)) else some (σ, (-1)))))))))
set_option maxHeartbeats 4000000 in
set_option maxRecDepth 100000 in
theorem w_X5_many {K : Kx} (C : CxC K cX5_many RX5 2 7 (some .int)) (σ : Mm) (p1 : Int32) (hf : Sat (f_X5_many σ p1) (fun o => kRt K (some (.int o.2)) o.1)) : Gj K σ 0 [(0, .ref (kAd K 0)), (1, .int p1)] [] := by
  unfold f_X5_many at hf
  have B := C.1
  refine g_iload_n B dX5_many_0 rfl 1 rfl ?_
  by_cases c1_0 : p1 = 0
  · have hf := sat_t hf c1_0
    refine g_tabIn (tgt := 44) (off := 43) B c1_0 dX5_many_1 (by decide) (by decide) (by decide) (by decide) ?_
    refine g_aload_n B dX5_many_44 rfl 0 rfl ?_
    refine c_get_F_parts C wf_RX5_16 dX5_many_45 ?_
    refine g_iload_n B dX5_many_48 rfl 1 rfl ?_
    obtain ⟨h2, hf⟩ := sat_chk hf
    refine c_aald2 C h2 dX5_many_49 ?_
    obtain ⟨h3, hf⟩ := sat_chk hf
    refine c_get_P_count C (eq_of_beq h3) wf_RX5_39 dX5_many_50 ?_
    have hf := sat_some hf
    exact g_iret B rfl rfl dX5_many_53 hf
  · have hf := sat_f hf c1_0
    by_cases c1_1 : p1 = 1
    · have hf := sat_t hf c1_1
      refine g_tabIn (tgt := 44) (off := 43) B c1_1 dX5_many_1 (by decide) (by decide) (by decide) (by decide) ?_
      refine g_aload_n B dX5_many_44 rfl 0 rfl ?_
      refine c_get_F_parts C wf_RX5_16 dX5_many_45 ?_
      refine g_iload_n B dX5_many_48 rfl 1 rfl ?_
      obtain ⟨h4, hf⟩ := sat_chk hf
      refine c_aald2 C h4 dX5_many_49 ?_
      obtain ⟨h5, hf⟩ := sat_chk hf
      refine c_get_P_count C (eq_of_beq h5) wf_RX5_39 dX5_many_50 ?_
      have hf := sat_some hf
      exact g_iret B rfl rfl dX5_many_53 hf
    · have hf := sat_f hf c1_1
      by_cases c1_2 : p1 = 2
      · have hf := sat_t hf c1_2
        refine g_tabIn (tgt := 44) (off := 43) B c1_2 dX5_many_1 (by decide) (by decide) (by decide) (by decide) ?_
        refine g_aload_n B dX5_many_44 rfl 0 rfl ?_
        refine c_get_F_parts C wf_RX5_16 dX5_many_45 ?_
        refine g_iload_n B dX5_many_48 rfl 1 rfl ?_
        obtain ⟨h6, hf⟩ := sat_chk hf
        refine c_aald2 C h6 dX5_many_49 ?_
        obtain ⟨h7, hf⟩ := sat_chk hf
        refine c_get_P_count C (eq_of_beq h7) wf_RX5_39 dX5_many_50 ?_
        have hf := sat_some hf
        exact g_iret B rfl rfl dX5_many_53 hf
      · have hf := sat_f hf c1_2
        by_cases c1_3 : p1 = 3
        · have hf := sat_t hf c1_3
          refine g_tabIn (tgt := 54) (off := 53) B c1_3 dX5_many_1 (by decide) (by decide) (by decide) (by decide) ?_
          refine g_aload_n B dX5_many_54 rfl 0 rfl ?_
          obtain ⟨σ8, r8, h8, hf⟩ := sat_ca1 hf
          refine g_cVI (rest := []) B (ck_X5_countAlike C h8) mo_X5_countAlike wm_RX5_168 (by decide) (cC_o3 C) rfl rfl rfl (Nat.le_of_ble_eq_true rfl) dX5_many_55 ?_
          have hf := sat_some hf
          exact g_iret B rfl rfl dX5_many_58 hf
        · have hf := sat_f hf c1_3
          by_cases c1_4 : p1 = 4
          · have hf := sat_t hf c1_4
            refine g_tabIn (tgt := 59) (off := 58) B c1_4 dX5_many_1 (by decide) (by decide) (by decide) (by decide) ?_
            refine g_aload_n B dX5_many_59 rfl 0 rfl ?_
            obtain ⟨σ9, r9, h9, hf⟩ := sat_ca1 hf
            refine g_cVI (rest := []) B (ck_X5_countDoubles C h9) mo_X5_countDoubles wm_RX5_171 (by decide) (cC_o3 C) rfl rfl rfl (Nat.le_of_ble_eq_true rfl) dX5_many_60 ?_
            have hf := sat_some hf
            exact g_iret B rfl rfl dX5_many_63 hf
          · have hf := sat_f hf c1_4
            by_cases c1_5 : p1 = 5
            · have hf := sat_t hf c1_5
              refine g_tabIn (tgt := 64) (off := 63) B c1_5 dX5_many_1 (by decide) (by decide) (by decide) (by decide) ?_
              refine g_aload_n B dX5_many_64 rfl 0 rfl ?_
              obtain ⟨σ10, r10, h10, hf⟩ := sat_ca1 hf
              refine g_cVI (rest := []) B (ck_X5_countSlurred C h10) mo_X5_countSlurred wm_RX5_174 (by decide) (cC_o3 C) rfl rfl rfl (Nat.le_of_ble_eq_true rfl) dX5_many_65 ?_
              have hf := sat_some hf
              exact g_iret B rfl rfl dX5_many_68 hf
            · have hf := sat_f hf c1_5
              by_cases c1_6 : p1 = 6
              · have hf := sat_t hf c1_6
                refine g_tabIn (tgt := 69) (off := 68) B c1_6 dX5_many_1 (by decide) (by decide) (by decide) (by decide) ?_
                refine g_aload_n B dX5_many_69 rfl 0 rfl ?_
                obtain ⟨σ11, r11, h11, hf⟩ := sat_ca1 hf
                refine g_cVI (rest := []) B (ck_X5_countWithoutFingering C h11) mo_X5_countWithoutFingering wm_RX5_175 (by decide) (cC_o3 C) rfl rfl rfl (Nat.le_of_ble_eq_true rfl) dX5_many_70 ?_
                have hf := sat_some hf
                exact g_iret B rfl rfl dX5_many_73 hf
              · have hf := sat_f hf c1_6
                refine g_tabOut (tgt := 74) B (by
                  have z0 := ne_toI c1_0 (z := 0) (by decide)
                  have z1 := ne_toI c1_1 (z := 1) (by decide)
                  have z2 := ne_toI c1_2 (z := 2) (by decide)
                  have z3 := ne_toI c1_3 (z := 3) (by decide)
                  have z4 := ne_toI c1_4 (z := 4) (by decide)
                  have z5 := ne_toI c1_5 (z := 5) (by decide)
                  have z6 := ne_toI c1_6 (z := 6) (by decide)
                  omega) dX5_many_1 (by decide) ?_
                refine g_iconst (v := (-1)) B dX5_many_74 (by decide) ?_
                have hf := sat_some hf
                exact g_iret B rfl rfl dX5_many_75 hf
theorem c_X5_many (l : Launch) (D : va_G) (Ad : Nat → Nat) (cI cP cII : ClassId) {σ : Mm} {p1 : Int32} {τ : Mm} {r : Int32} (h : f_X5_many σ p1 = some (τ, r)) : CtI l D (tysC cI cP cII) (wdC Ad cI cP cII) StC yX5_many cX5_many 2 .int 7 σ [.ref (Ad 0), .int p1] (τ, r) := by
  refine metI (Ad := Ad) (cI := cI) (cP := cP) (cII := cII) (by decide) (Nat.le_of_ble_eq_true rfl) (wdG_ok _ _ _) stOK_C rfl (fun K C G hR => ?_)
  have e : kAd K = Ad := G.2.2.2.2.2.1
  have C2 := cC_of C G
  have h9 := w_X5_many C2 σ p1 ⟨_, h, by rw [hR]; exact ⟨rfl, rfl⟩⟩
  rw [e] at h9
  exact h9
theorem ck_X5_many {K : Kx} {cc : ByteArray} {own : String} {nL d : Nat} {rty : Option FieldType} (C : CxC K cc own nL d rty) {σ : Mm} {p1 : Int32} {τ : Mm} {r : Int32} (h : f_X5_many σ p1 = some (τ, r)) : CtI (kl K) (kD K) (ktys K) (kwf K) (kSt K) yX5_many cX5_many 2 .int 7 σ [.ref (kAd K 0), .int p1] (τ, r) := cC_eq C (P := fun l D tys wf St => CtI l D tys wf St yX5_many cX5_many 2 .int 7 σ [.ref (kAd K 0), .int p1] (τ, r)) (c_X5_many _ _ _ _ _ _ h)
