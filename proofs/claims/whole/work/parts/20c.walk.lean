def f_X1_listPairs_s21 (r4 : Int32) (p4 : Int32) (v1_5 : Int32) (p2 : Int32) (p1 : Int32) (σ5 : Mm) (v5_7 : Int32) : Option ((Mm × Int32) ⊕ (Mm)) :=
  (if r4 < 0 then some (.inr σ5) else (if 10 ≤ v5_7 then some (.inr σ5) else bn1 (f_X4_hand σ5 v5_7 p4) (fun σ9 r9 => (if r9 < 0 then some (.inl (σ9, (v5_7 + 1))) else bn1 (f_X4_goTogether σ9 v1_5 r4 v5_7 r9) (fun σ11 r11 => (if r11 = 0 then some (.inl (σ11, (v5_7 + 1))) else bn1 (f_X2_make σ11 p2 (if r4 < r9 then r9 else r4) v1_5 v5_7) (fun σ13 r13 => bn0 (f_X1_insert σ13 p1 r13) (fun σ14 => some (.inl (σ14, (v5_7 + 1)))))))))))
def f_X1_listPairs_s3 (p3 : Int32) (p4 : Int32) (p2 : Int32) (p1 : Int32) (σ1 : Mm) (v1_5 : Int32) : Option ((Mm × Int32) ⊕ (Mm)) :=
  (if 10 ≤ v1_5 then some (.inr σ1) else bn1 (f_X4_hand σ1 v1_5 p3) (fun σ4 r4 => bn0 (lq1 (f_X1_listPairs_s21 r4 p4 v1_5 p2 p1) fu σ4 0) (fun σ6 => some (.inl (σ6, (v1_5 + 1))))))
def f_X1_listPairs (σ : Mm) (p1 : Int32) (p2 : Int32) (p3 : Int32) (p4 : Int32) : Option (Mm) :=
  bn0 (lq1 (f_X1_listPairs_s3 p3 p4 p2 p1) fu σ 0) (fun σ2 => some σ2)
set_option maxHeartbeats 4000000 in
set_option maxRecDepth 100000 in
theorem w_X1_listPairs {K : Kx} (C : CxC K cX1_listPairs RX1 9 1 none) (σ : Mm) (p1 : Int32) (p2 : Int32) (p3 : Int32) (p4 : Int32) (hf : Sat (f_X1_listPairs σ p1 p2 p3 p4) (fun o => kRt K none o)) : Gj K σ 0 [(0, .ref (kAd K 3)), (1, .int p1), (2, .int p2), (3, .int p3), (4, .int p4)] [] := by
  unfold f_X1_listPairs at hf
  have B := C.1
  refine g_iconst (v := 0) B dX1_listPairs_0 (by decide) ?_
  refine g_istore B [(0, .ref (kAd K 3)), (1, .int p1), (2, .int p2), (3, .int p3), (4, .int p4), (5, .int 0)] dX1_listPairs_1 (by decide) [1, 2, 3, 4, 5, 0] rfl ?_
  have hf := sat_cu0 (G := fun σ2 => Gj K σ2 93 [] []) hf (by
    intro σ2 hf
    have hf := sat_some hf
    exact g_vret B rfl dX1_listPairs_93 hf)
  refine lqr1 (Gh := fun σ1 v1_5 => Gj K σ1 3 [(0, .ref (kAd K 3)), (1, .int p1), (2, .int p2), (3, .int p3), (4, .int p4), (5, .int v1_5)] []) ?_ fu σ 0 hf
  intro σ1 v1_5 hf
  unfold f_X1_listPairs_s3 at hf
  refine g_iload B dX1_listPairs_3 5 rfl ?_
  refine g_bipush (v := 10) B dX1_listPairs_5 (by decide) ?_
  refine g_icmp_ge (tgt := 93) B dX1_listPairs_7 (by decide) (fun c3 => ?_) (fun c3 => ?_)
  · have hf := sat_t hf c3
    have hf := sum_r (sat_some hf)
    exact g_sub hf [] rfl
  · have hf := sat_f hf c3
    refine g_iload B dX1_listPairs_10 5 rfl ?_
    refine g_iload_n B dX1_listPairs_12 rfl 3 rfl ?_
    obtain ⟨σ4, r4, h4, hf⟩ := sat_ca1 hf
    refine g_cSI (rest := []) B (ck_X4_hand C h4) mo_X4_hand wm_RX1_45 (by decide) rfl rfl (Nat.le_of_ble_eq_true rfl) dX1_listPairs_13 ?_
    refine g_istore B [(0, .ref (kAd K 3)), (1, .int p1), (2, .int p2), (3, .int p3), (4, .int p4), (5, .int v1_5), (6, .int r4)] dX1_listPairs_16 (by decide) [1, 2, 3, 4, 5, 6, 0] rfl ?_
    refine g_iconst (v := 0) B dX1_listPairs_18 (by decide) ?_
    refine g_istore B [(0, .ref (kAd K 3)), (1, .int p1), (2, .int p2), (3, .int p3), (4, .int p4), (5, .int v1_5), (6, .int r4), (7, .int 0)] dX1_listPairs_19 (by decide) [1, 2, 3, 4, 5, 6, 7, 0] rfl ?_
    have hf := sat_cu0 (G := fun σ6 => Gj K σ6 87 [(0, .ref (kAd K 3)), (1, .int p1), (2, .int p2), (3, .int p3), (4, .int p4), (5, .int v1_5)] []) hf (by
      intro σ6 hf
      refine g_iinc B (v1_5 + 1) [(0, .ref (kAd K 3)), (1, .int p1), (2, .int p2), (3, .int p3), (4, .int p4), (5, .int ((v1_5 + 1)))] dX1_listPairs_87 5 rfl rfl (by decide) [1, 2, 3, 4, 5, 0] rfl ?_
      refine g_goto (tgt := 3) B dX1_listPairs_90 (by decide) ?_
      have hf := sum_l (sat_some hf)
      exact g_sub hf [0, 1, 2, 3, 4, 5] rfl)
    refine lqr1 (Gh := fun σ5 v5_7 => Gj K σ5 21 [(0, .ref (kAd K 3)), (1, .int p1), (2, .int p2), (3, .int p3), (4, .int p4), (5, .int v1_5), (6, .int r4), (7, .int v5_7)] []) ?_ fu σ4 0 hf
    intro σ5 v5_7 hf
    unfold f_X1_listPairs_s21 at hf
    refine g_iload B dX1_listPairs_21 6 rfl ?_
    refine g_if_lt (tgt := 87) B dX1_listPairs_23 (by decide) (fun c7 => ?_) (fun c7 => ?_)
    · have hf := sat_t hf c7
      have hf := sum_r (sat_some hf)
      exact g_sub hf [0, 1, 2, 3, 4, 5] rfl
    · have hf := sat_f hf c7
      refine g_iload B dX1_listPairs_26 7 rfl ?_
      refine g_bipush (v := 10) B dX1_listPairs_28 (by decide) ?_
      refine g_icmp_ge (tgt := 87) B dX1_listPairs_30 (by decide) (fun c8 => ?_) (fun c8 => ?_)
      · have hf := sat_t hf c8
        have hf := sum_r (sat_some hf)
        exact g_sub hf [0, 1, 2, 3, 4, 5] rfl
      · have hf := sat_f hf c8
        refine g_iload B dX1_listPairs_33 7 rfl ?_
        refine g_iload B dX1_listPairs_35 4 rfl ?_
        obtain ⟨σ9, r9, h9, hf⟩ := sat_ca1 hf
        refine g_cSI (rest := []) B (ck_X4_hand C h9) mo_X4_hand wm_RX1_45 (by decide) rfl rfl (Nat.le_of_ble_eq_true rfl) dX1_listPairs_37 ?_
        refine g_istore B [(0, .ref (kAd K 3)), (1, .int p1), (2, .int p2), (3, .int p3), (4, .int p4), (5, .int v1_5), (6, .int r4), (7, .int v5_7), (8, .int r9)] dX1_listPairs_40 (by decide) [1, 2, 3, 4, 5, 6, 7, 8, 0] rfl ?_
        refine g_iload B dX1_listPairs_42 8 rfl ?_
        refine g_if_lt (tgt := 81) B dX1_listPairs_44 (by decide) (fun c10 => ?_) (fun c10 => ?_)
        · have hf := sat_t hf c10
          refine g_iinc B (v5_7 + 1) [(0, .ref (kAd K 3)), (1, .int p1), (2, .int p2), (3, .int p3), (4, .int p4), (5, .int v1_5), (6, .int r4), (7, .int ((v5_7 + 1))), (8, .int r9)] dX1_listPairs_81 7 rfl rfl (by decide) [1, 2, 3, 4, 5, 6, 7, 0, 8] rfl ?_
          refine g_goto (tgt := 21) B dX1_listPairs_84 (by decide) ?_
          have hf := sum_l (sat_some hf)
          exact g_sub hf [0, 1, 2, 3, 4, 5, 6, 7] rfl
        · have hf := sat_f hf c10
          refine g_iload B dX1_listPairs_47 5 rfl ?_
          refine g_iload B dX1_listPairs_49 6 rfl ?_
          refine g_iload B dX1_listPairs_51 7 rfl ?_
          refine g_iload B dX1_listPairs_53 8 rfl ?_
          obtain ⟨σ11, r11, h11, hf⟩ := sat_ca1 hf
          refine g_cSI (rest := []) B (ck_X4_goTogether C h11) mo_X4_goTogether wm_RX1_59 (by decide) rfl rfl (Nat.le_of_ble_eq_true rfl) dX1_listPairs_55 ?_
          refine g_if_eq (tgt := 81) B dX1_listPairs_58 (by decide) (fun c12 => ?_) (fun c12 => ?_)
          · have hf := sat_t hf c12
            refine g_iinc B (v5_7 + 1) [(0, .ref (kAd K 3)), (1, .int p1), (2, .int p2), (3, .int p3), (4, .int p4), (5, .int v1_5), (6, .int r4), (7, .int ((v5_7 + 1))), (8, .int r9)] dX1_listPairs_81 7 rfl rfl (by decide) [1, 2, 3, 4, 5, 6, 7, 0, 8] rfl ?_
            refine g_goto (tgt := 21) B dX1_listPairs_84 (by decide) ?_
            have hf := sum_l (sat_some hf)
            exact g_sub hf [0, 1, 2, 3, 4, 5, 6, 7] rfl
          · have hf := sat_f hf c12
            refine g_aload_n B dX1_listPairs_61 rfl 0 rfl ?_
            refine g_iload_n B dX1_listPairs_62 rfl 1 rfl ?_
            refine g_iload_n B dX1_listPairs_63 rfl 2 rfl ?_
            refine g_iload B dX1_listPairs_64 6 rfl ?_
            refine g_iload B dX1_listPairs_66 8 rfl ?_
            refine g_mmax B wm_RX1_63 wms_max wmi wmc_max (by decide) (Nat.le_of_ble_eq_true rfl) dX1_listPairs_68 ?_
            refine g_iload B dX1_listPairs_71 5 rfl ?_
            refine g_iload B dX1_listPairs_73 7 rfl ?_
            obtain ⟨σ13, r13, h13, hf⟩ := sat_ca1 hf
            refine g_cSI (rest := [.int p1, .ref (kAd K 3)]) B (ck_X2_make C h13) mo_X2_make wm_RX1_49 (by decide) rfl rfl (Nat.le_of_ble_eq_true rfl) dX1_listPairs_75 ?_
            obtain ⟨σ14, h14, hf⟩ := sat_ca0 hf
            refine g_cVV (rest := []) B (ck_X1_insert C h14) mo_X1_insert wm_RX1_55 (by decide) (cC_o1 C) rfl rfl rfl (Nat.le_of_ble_eq_true rfl) dX1_listPairs_78 ?_
            refine g_iinc B (v5_7 + 1) [(0, .ref (kAd K 3)), (1, .int p1), (2, .int p2), (3, .int p3), (4, .int p4), (5, .int v1_5), (6, .int r4), (7, .int ((v5_7 + 1))), (8, .int r9)] dX1_listPairs_81 7 rfl rfl (by decide) [1, 2, 3, 4, 5, 6, 7, 0, 8] rfl ?_
            refine g_goto (tgt := 21) B dX1_listPairs_84 (by decide) ?_
            have hf := sum_l (sat_some hf)
            exact g_sub hf [0, 1, 2, 3, 4, 5, 6, 7] rfl
theorem c_X1_listPairs (l : Launch) (D : va_G) (Ad : Nat → Nat) (cI cP cII : ClassId) {σ : Mm} {p1 : Int32} {p2 : Int32} {p3 : Int32} {p4 : Int32} {τ : Mm} (h : f_X1_listPairs σ p1 p2 p3 p4 = some τ) : CtV l D (tysC cI cP cII) (wdC Ad cI cP cII) StC yX1_listPairs cX1_listPairs 9 1 σ [.ref (Ad 3), .int p1, .int p2, .int p3, .int p4] τ := by
  refine metV (Ad := Ad) (cI := cI) (cP := cP) (cII := cII) (by decide) (Nat.le_of_ble_eq_true rfl) (wdG_ok _ _ _) stOK_C rfl (fun K C G hR => ?_)
  have e : kAd K = Ad := G.2.2.2.2.2.1
  have C2 := cC_of C G
  have h9 := w_X1_listPairs C2 σ p1 p2 p3 p4 ⟨_, h, by rw [hR]; exact ⟨rfl, rfl⟩⟩
  rw [e] at h9
  exact h9
theorem ck_X1_listPairs {K : Kx} {cc : ByteArray} {own : String} {nL d : Nat} {rty : Option FieldType} (C : CxC K cc own nL d rty) {σ : Mm} {p1 : Int32} {p2 : Int32} {p3 : Int32} {p4 : Int32} {τ : Mm} (h : f_X1_listPairs σ p1 p2 p3 p4 = some τ) : CtV (kl K) (kD K) (ktys K) (kwf K) (kSt K) yX1_listPairs cX1_listPairs 9 1 σ [.ref (kAd K 3), .int p1, .int p2, .int p3, .int p4] τ := cC_eq C (P := fun l D tys wf St => CtV l D tys wf St yX1_listPairs cX1_listPairs 9 1 σ [.ref (kAd K 3), .int p1, .int p2, .int p3, .int p4] τ) (c_X1_listPairs _ _ _ _ _ _ h)
def f_X1_listSingles_s3 (p3 : Int32) (p2 : Int32) (p1 : Int32) (σ1 : Mm) (v1_4 : Int32) : Option ((Mm × Int32) ⊕ (Mm)) :=
  (if 10 ≤ v1_4 then some (.inr σ1) else bn1 (f_X4_hand σ1 v1_4 p3) (fun σ4 r4 => (if r4 < 0 then some (.inl (σ4, (v1_4 + 1))) else bn1 (f_X2_make σ4 p2 r4 v1_4 0) (fun σ6 r6 => bn0 (f_X1_insert σ6 p1 r6) (fun σ7 => some (.inl (σ7, (v1_4 + 1))))))))
def f_X1_listSingles (σ : Mm) (p1 : Int32) (p2 : Int32) (p3 : Int32) : Option (Mm) :=
  bn0 (lq1 (f_X1_listSingles_s3 p3 p2 p1) fu σ 0) (fun σ2 => some σ2)
set_option maxHeartbeats 4000000 in
set_option maxRecDepth 100000 in
theorem w_X1_listSingles {K : Kx} (C : CxC K cX1_listSingles RX1 6 1 none) (σ : Mm) (p1 : Int32) (p2 : Int32) (p3 : Int32) (hf : Sat (f_X1_listSingles σ p1 p2 p3) (fun o => kRt K none o)) : Gj K σ 0 [(0, .ref (kAd K 3)), (1, .int p1), (2, .int p2), (3, .int p3)] [] := by
  unfold f_X1_listSingles at hf
  have B := C.1
  refine g_iconst (v := 0) B dX1_listSingles_0 (by decide) ?_
  refine g_istore B [(0, .ref (kAd K 3)), (1, .int p1), (2, .int p2), (3, .int p3), (4, .int 0)] dX1_listSingles_1 (by decide) [1, 2, 3, 4, 0] rfl ?_
  have hf := sat_cu0 (G := fun σ2 => Gj K σ2 43 [] []) hf (by
    intro σ2 hf
    have hf := sat_some hf
    exact g_vret B rfl dX1_listSingles_43 hf)
  refine lqr1 (Gh := fun σ1 v1_4 => Gj K σ1 3 [(0, .ref (kAd K 3)), (1, .int p1), (2, .int p2), (3, .int p3), (4, .int v1_4)] []) ?_ fu σ 0 hf
  intro σ1 v1_4 hf
  unfold f_X1_listSingles_s3 at hf
  refine g_iload B dX1_listSingles_3 4 rfl ?_
  refine g_bipush (v := 10) B dX1_listSingles_5 (by decide) ?_
  refine g_icmp_ge (tgt := 43) B dX1_listSingles_7 (by decide) (fun c3 => ?_) (fun c3 => ?_)
  · have hf := sat_t hf c3
    have hf := sum_r (sat_some hf)
    exact g_sub hf [] rfl
  · have hf := sat_f hf c3
    refine g_iload B dX1_listSingles_10 4 rfl ?_
    refine g_iload_n B dX1_listSingles_12 rfl 3 rfl ?_
    obtain ⟨σ4, r4, h4, hf⟩ := sat_ca1 hf
    refine g_cSI (rest := []) B (ck_X4_hand C h4) mo_X4_hand wm_RX1_45 (by decide) rfl rfl (Nat.le_of_ble_eq_true rfl) dX1_listSingles_13 ?_
    refine g_istore B [(0, .ref (kAd K 3)), (1, .int p1), (2, .int p2), (3, .int p3), (4, .int v1_4), (5, .int r4)] dX1_listSingles_16 (by decide) [1, 2, 3, 4, 5, 0] rfl ?_
    refine g_iload B dX1_listSingles_18 5 rfl ?_
    refine g_if_lt (tgt := 37) B dX1_listSingles_20 (by decide) (fun c5 => ?_) (fun c5 => ?_)
    · have hf := sat_t hf c5
      refine g_iinc B (v1_4 + 1) [(0, .ref (kAd K 3)), (1, .int p1), (2, .int p2), (3, .int p3), (4, .int ((v1_4 + 1))), (5, .int r4)] dX1_listSingles_37 4 rfl rfl (by decide) [1, 2, 3, 4, 0, 5] rfl ?_
      refine g_goto (tgt := 3) B dX1_listSingles_40 (by decide) ?_
      have hf := sum_l (sat_some hf)
      exact g_sub hf [0, 1, 2, 3, 4] rfl
    · have hf := sat_f hf c5
      refine g_aload_n B dX1_listSingles_23 rfl 0 rfl ?_
      refine g_iload_n B dX1_listSingles_24 rfl 1 rfl ?_
      refine g_iload_n B dX1_listSingles_25 rfl 2 rfl ?_
      refine g_iload B dX1_listSingles_26 5 rfl ?_
      refine g_iload B dX1_listSingles_28 4 rfl ?_
      refine g_iconst (v := 0) B dX1_listSingles_30 (by decide) ?_
      obtain ⟨σ6, r6, h6, hf⟩ := sat_ca1 hf
      refine g_cSI (rest := [.int p1, .ref (kAd K 3)]) B (ck_X2_make C h6) mo_X2_make wm_RX1_49 (by decide) rfl rfl (Nat.le_of_ble_eq_true rfl) dX1_listSingles_31 ?_
      obtain ⟨σ7, h7, hf⟩ := sat_ca0 hf
      refine g_cVV (rest := []) B (ck_X1_insert C h7) mo_X1_insert wm_RX1_55 (by decide) (cC_o1 C) rfl rfl rfl (Nat.le_of_ble_eq_true rfl) dX1_listSingles_34 ?_
      refine g_iinc B (v1_4 + 1) [(0, .ref (kAd K 3)), (1, .int p1), (2, .int p2), (3, .int p3), (4, .int ((v1_4 + 1))), (5, .int r4)] dX1_listSingles_37 4 rfl rfl (by decide) [1, 2, 3, 4, 0, 5] rfl ?_
      refine g_goto (tgt := 3) B dX1_listSingles_40 (by decide) ?_
      have hf := sum_l (sat_some hf)
      exact g_sub hf [0, 1, 2, 3, 4] rfl
theorem c_X1_listSingles (l : Launch) (D : va_G) (Ad : Nat → Nat) (cI cP cII : ClassId) {σ : Mm} {p1 : Int32} {p2 : Int32} {p3 : Int32} {τ : Mm} (h : f_X1_listSingles σ p1 p2 p3 = some τ) : CtV l D (tysC cI cP cII) (wdC Ad cI cP cII) StC yX1_listSingles cX1_listSingles 6 1 σ [.ref (Ad 3), .int p1, .int p2, .int p3] τ := by
  refine metV (Ad := Ad) (cI := cI) (cP := cP) (cII := cII) (by decide) (Nat.le_of_ble_eq_true rfl) (wdG_ok _ _ _) stOK_C rfl (fun K C G hR => ?_)
  have e : kAd K = Ad := G.2.2.2.2.2.1
  have C2 := cC_of C G
  have h9 := w_X1_listSingles C2 σ p1 p2 p3 ⟨_, h, by rw [hR]; exact ⟨rfl, rfl⟩⟩
  rw [e] at h9
  exact h9
theorem ck_X1_listSingles {K : Kx} {cc : ByteArray} {own : String} {nL d : Nat} {rty : Option FieldType} (C : CxC K cc own nL d rty) {σ : Mm} {p1 : Int32} {p2 : Int32} {p3 : Int32} {τ : Mm} (h : f_X1_listSingles σ p1 p2 p3 = some τ) : CtV (kl K) (kD K) (ktys K) (kwf K) (kSt K) yX1_listSingles cX1_listSingles 6 1 σ [.ref (kAd K 3), .int p1, .int p2, .int p3] τ := cC_eq C (P := fun l D tys wf St => CtV l D tys wf St yX1_listSingles cX1_listSingles 6 1 σ [.ref (kAd K 3), .int p1, .int p2, .int p3] τ) (c_X1_listSingles _ _ _ _ _ _ h)
def f_X3_isDouble (σ : Mm) (k0 : Nat) (p1 : Int32) : Option (Mm × Int32) :=
  chk (kdC k0 == 2) (chk (inC (k0 + 2) p1) ((if (σ (k0 + 2) p1.toNatClampNeg) = (-1) then some (σ, 0) else some (σ, 1))))
set_option maxHeartbeats 4000000 in
set_option maxRecDepth 100000 in
theorem w_X3_isDouble {K : Kx} (C : CxC K cX3_isDouble RX3 2 0 (some .boolean)) (σ : Mm) (k0 : Nat) (p1 : Int32) (hf : Sat (f_X3_isDouble σ k0 p1) (fun o => kRt K (some (.int o.2)) o.1)) : Gj K σ 0 [(0, .ref (kAd K k0)), (1, .int p1)] [] := by
  unfold f_X3_isDouble at hf
  have B := C.1
  refine g_aload_n B dX3_isDouble_0 rfl 0 rfl ?_
  obtain ⟨h1, hf⟩ := sat_chk hf
  refine c_get_P_seconds C (eq_of_beq h1) wf_RX3_15 dX3_isDouble_1 ?_
  refine g_iload_n B dX3_isDouble_4 rfl 1 rfl ?_
  obtain ⟨h2, hf⟩ := sat_chk hf
  refine c_iald C h2 dX3_isDouble_5 ?_
  refine g_iconst (v := (-1)) B dX3_isDouble_6 (by decide) ?_
  refine g_icmp_eq (tgt := 14) B dX3_isDouble_7 (by decide) (fun c3 => ?_) (fun c3 => ?_)
  · have hf := sat_t hf c3
    refine g_iconst (v := 0) B dX3_isDouble_14 (by decide) ?_
    have hf := sat_some hf
    exact g_iret B rfl rfl dX3_isDouble_15 hf
  · have hf := sat_f hf c3
    refine g_iconst (v := 1) B dX3_isDouble_10 (by decide) ?_
    refine g_goto (tgt := 15) B dX3_isDouble_11 (by decide) ?_
    have hf := sat_some hf
    exact g_iret B rfl rfl dX3_isDouble_15 hf
theorem c_X3_isDouble (l : Launch) (D : va_G) (Ad : Nat → Nat) (cI cP cII : ClassId) {σ : Mm} {k0 : Nat} {p1 : Int32} {τ : Mm} {r : Int32} (h : f_X3_isDouble σ k0 p1 = some (τ, r)) : CtI l D (tysC cI cP cII) (wdC Ad cI cP cII) StC yX3_isDouble cX3_isDouble 2 .boolean 0 σ [.ref (Ad k0), .int p1] (τ, r) := by
  refine metI (Ad := Ad) (cI := cI) (cP := cP) (cII := cII) (by decide) (Nat.le_of_ble_eq_true rfl) (wdG_ok _ _ _) stOK_C rfl (fun K C G hR => ?_)
  have e : kAd K = Ad := G.2.2.2.2.2.1
  have C2 := cC_of C G
  have h9 := w_X3_isDouble C2 σ k0 p1 ⟨_, h, by rw [hR]; exact ⟨rfl, rfl⟩⟩
  rw [e] at h9
  exact h9
theorem ck_X3_isDouble {K : Kx} {cc : ByteArray} {own : String} {nL d : Nat} {rty : Option FieldType} (C : CxC K cc own nL d rty) {σ : Mm} {k0 : Nat} {p1 : Int32} {τ : Mm} {r : Int32} (h : f_X3_isDouble σ k0 p1 = some (τ, r)) : CtI (kl K) (kD K) (ktys K) (kwf K) (kSt K) yX3_isDouble cX3_isDouble 2 .boolean 0 σ [.ref (kAd K k0), .int p1] (τ, r) := cC_eq C (P := fun l D tys wf St => CtI l D tys wf St yX3_isDouble cX3_isDouble 2 .boolean 0 σ [.ref (kAd K k0), .int p1] (τ, r)) (c_X3_isDouble _ _ _ _ _ _ h)
def f_X1_listHolds_s100 (k2a : Nat) (p3 : Int32) (k1a : Nat) (σ6 : Mm) (v6_4 : Int32) : Option ((Mm × Int32) ⊕ (Mm)) :=
  (if 4 ≤ v6_4 then some (.inr σ6) else chk (inC (k2a + 1) p3) (chk (inC k1a v6_4) (bn0 (f_X1_listSingles σ6 p3 v6_4 ((σ6 (k2a + 1) p3.toNatClampNeg) - (σ6 k1a v6_4.toNatClampNeg))) (fun σ11 => some (.inl (σ11, (v6_4 + 1)))))))
def f_X1_listHolds_s18 (k2a : Nat) (p3 : Int32) (k1a : Nat) (σ12 : Mm) (v12_4 : Int32) : Option ((Mm × Int32) ⊕ (Mm)) :=
  (if 4 ≤ (v12_4 + 1) then some (.inr σ12) else chk (inC (k2a + 1) p3) (chk (inC k1a v12_4) (chk (inC (k2a + 2) p3) (chk (inC k1a (v12_4 + 1)) (bn0 (f_X1_listPairs σ12 p3 v12_4 ((σ12 (k2a + 1) p3.toNatClampNeg) - (σ12 k1a v12_4.toNatClampNeg)) ((σ12 (k2a + 2) p3.toNatClampNeg) - (σ12 k1a (v12_4 + 1).toNatClampNeg))) (fun σ19 => chk (inC (k2a + 2) p3) (chk (inC k1a v12_4) (chk (inC (k2a + 1) p3) (chk (inC k1a (v12_4 + 1)) (bn0 (f_X1_listPairs σ19 p3 v12_4 ((σ19 (k2a + 2) p3.toNatClampNeg) - (σ19 k1a v12_4.toNatClampNeg)) ((σ19 (k2a + 1) p3.toNatClampNeg) - (σ19 k1a (v12_4 + 1).toNatClampNeg))) (fun σ24 => some (.inl (σ24, (v12_4 + 1))))))))))))))
def f_X1_listHolds (σ : Mm) (k1a : Nat) (k2a : Nat) (p3 : Int32) : Option (Mm × Int32) :=
  chk (inC 5 p3) (nm (ms σ 5 p3.toNatClampNeg 0) (fun σ1 => chk (kdC k2a == 2) (bn1 (f_X3_isDouble σ1 k2a p3) (fun σ2 r2 => bn0 ((if r2 = 0 then bn0 (lq1 (f_X1_listHolds_s100 k2a p3 k1a) fu σ2 0) (fun σ7 => some σ7) else bn0 (lq1 (f_X1_listHolds_s18 k2a p3 k1a) fu σ2 0) (fun σ13 => some σ13)) : Option (Mm)) (fun σ4 => chk (inC 5 p3) (some (σ4, (σ4 5 p3.toNatClampNeg))))))))
set_option maxHeartbeats 4000000 in
set_option maxRecDepth 100000 in
theorem w_X1_listHolds {K : Kx} (C : CxC K cX1_listHolds RX1 5 2 (some .int)) (σ : Mm) (k1a : Nat) (k2a : Nat) (p3 : Int32) (hf : Sat (f_X1_listHolds σ k1a k2a p3) (fun o => kRt K (some (.int o.2)) o.1)) : Gj K σ 0 [(0, .ref (kAd K 3)), (1, .ref (kAd K k1a)), (2, .ref (kAd K k2a)), (3, .int p3)] [] := by
  unfold f_X1_listHolds at hf
  have B := C.1
  refine g_aload_n B dX1_listHolds_0 rfl 0 rfl ?_
  refine c_get_D_counts C wf_RX1_16 dX1_listHolds_1 ?_
  refine g_iload_n B dX1_listHolds_4 rfl 3 rfl ?_
  refine g_iconst (v := 0) B dX1_listHolds_5 (by decide) ?_
  obtain ⟨h1, hf⟩ := sat_chk hf
  obtain ⟨σ1, e1, hf⟩ := sat_nm hf
  refine c_iast C h1 dX1_listHolds_6 (g_mem2 e1 ?_)
  refine g_aload_n B dX1_listHolds_7 rfl 2 rfl ?_
  refine g_iload_n B dX1_listHolds_8 rfl 3 rfl ?_
  obtain ⟨h3, hf⟩ := sat_chk hf
  obtain ⟨σ2, r2, h2, hf⟩ := sat_ca1 hf
  refine g_cVI (rest := []) B (ck_X3_isDouble C h2) mo_X3_isDouble wm_RX1_23 (by decide) (cC_o2 C (eq_of_beq h3)) rfl rfl rfl (Nat.le_of_ble_eq_true rfl) dX1_listHolds_9 ?_
  have hf := sat_cu0 (G := fun σ4 => Gj K σ4 130 [(0, .ref (kAd K 3)), (3, .int p3)] []) hf (by
    intro σ4 hf
    refine g_aload_n B dX1_listHolds_130 rfl 0 rfl ?_
    refine c_get_D_counts C wf_RX1_16 dX1_listHolds_131 ?_
    refine g_iload_n B dX1_listHolds_134 rfl 1 rfl ?_
    obtain ⟨h5, hf⟩ := sat_chk hf
    refine c_iald C h5 dX1_listHolds_135 ?_
    have hf := sat_some hf
    exact g_iret B rfl rfl dX1_listHolds_136 hf)
  refine g_if_eq (tgt := 97) B dX1_listHolds_12 (by decide) (fun c4 => ?_) (fun c4 => ?_)
  · have hf := sat_t hf c4
    refine g_iconst (v := 0) B dX1_listHolds_97 (by decide) ?_
    refine g_istore B [(0, .ref (kAd K 3)), (1, .ref (kAd K k1a)), (2, .ref (kAd K k2a)), (3, .int p3), (4, .int 0)] dX1_listHolds_98 (by decide) [1, 2, 3, 4, 0] rfl ?_
    have hf := sat_cu0 (G := fun σ7 => Gj K σ7 130 [(0, .ref (kAd K 3)), (3, .int p3)] []) hf (by
      intro σ7 hf
      have hf := sat_some hf
      exact g_sub hf [0, 1] rfl)
    refine lqr1 (Gh := fun σ6 v6_4 => Gj K σ6 100 [(0, .ref (kAd K 3)), (1, .ref (kAd K k1a)), (2, .ref (kAd K k2a)), (3, .int p3), (4, .int v6_4)] []) ?_ fu σ2 0 hf
    intro σ6 v6_4 hf
    unfold f_X1_listHolds_s100 at hf
    refine g_iload B dX1_listHolds_100 4 rfl ?_
    refine g_iconst (v := 4) B dX1_listHolds_102 (by decide) ?_
    refine g_icmp_ge (tgt := 130) B dX1_listHolds_103 (by decide) (fun c8 => ?_) (fun c8 => ?_)
    · have hf := sat_t hf c8
      have hf := sum_r (sat_some hf)
      exact g_sub hf [0, 3] rfl
    · have hf := sat_f hf c8
      refine g_aload_n B dX1_listHolds_106 rfl 0 rfl ?_
      refine g_iload_n B dX1_listHolds_107 rfl 3 rfl ?_
      refine g_iload B dX1_listHolds_108 4 rfl ?_
      refine g_aload_n B dX1_listHolds_110 rfl 2 rfl ?_
      refine c_get_P_pitches C (eq_of_beq h3) wf_RX1_29 dX1_listHolds_111 ?_
      refine g_iload_n B dX1_listHolds_114 rfl 3 rfl ?_
      obtain ⟨h9, hf⟩ := sat_chk hf
      refine c_iald C h9 dX1_listHolds_115 ?_
      refine g_aload_n B dX1_listHolds_116 rfl 1 rfl ?_
      refine g_iload B dX1_listHolds_117 4 rfl ?_
      obtain ⟨h10, hf⟩ := sat_chk hf
      refine c_iald C h10 dX1_listHolds_119 ?_
      refine g_isub B dX1_listHolds_120 ?_
      obtain ⟨σ11, h11, hf⟩ := sat_ca0 hf
      refine g_cVV (rest := []) B (ck_X1_listSingles C h11) mo_X1_listSingles wm_RX1_39 (by decide) (cC_o1 C) rfl rfl rfl (Nat.le_of_ble_eq_true rfl) dX1_listHolds_121 ?_
      refine g_iinc B (v6_4 + 1) [(0, .ref (kAd K 3)), (1, .ref (kAd K k1a)), (2, .ref (kAd K k2a)), (3, .int p3), (4, .int ((v6_4 + 1)))] dX1_listHolds_124 4 rfl rfl (by decide) [1, 2, 3, 4, 0] rfl ?_
      refine g_goto (tgt := 100) B dX1_listHolds_127 (by decide) ?_
      have hf := sum_l (sat_some hf)
      exact g_sub hf [0, 1, 2, 3, 4] rfl
  · have hf := sat_f hf c4
    refine g_iconst (v := 0) B dX1_listHolds_15 (by decide) ?_
    refine g_istore B [(0, .ref (kAd K 3)), (1, .ref (kAd K k1a)), (2, .ref (kAd K k2a)), (3, .int p3), (4, .int 0)] dX1_listHolds_16 (by decide) [1, 2, 3, 4, 0] rfl ?_
    have hf := sat_cu0 (G := fun σ13 => Gj K σ13 94 [(0, .ref (kAd K 3)), (3, .int p3)] []) hf (by
      intro σ13 hf
      refine g_goto (tgt := 130) B dX1_listHolds_94 (by decide) ?_
      have hf := sat_some hf
      exact g_sub hf [0, 1] rfl)
    refine lqr1 (Gh := fun σ12 v12_4 => Gj K σ12 18 [(0, .ref (kAd K 3)), (1, .ref (kAd K k1a)), (2, .ref (kAd K k2a)), (3, .int p3), (4, .int v12_4)] []) ?_ fu σ2 0 hf
    intro σ12 v12_4 hf
    unfold f_X1_listHolds_s18 at hf
    refine g_iload B dX1_listHolds_18 4 rfl ?_
    refine g_iconst (v := 1) B dX1_listHolds_20 (by decide) ?_
    refine g_iadd B dX1_listHolds_21 ?_
    refine g_iconst (v := 4) B dX1_listHolds_22 (by decide) ?_
    refine g_icmp_ge (tgt := 94) B dX1_listHolds_23 (by decide) (fun c14 => ?_) (fun c14 => ?_)
    · have hf := sat_t hf c14
      have hf := sum_r (sat_some hf)
      exact g_sub hf [0, 3] rfl
    · have hf := sat_f hf c14
      refine g_aload_n B dX1_listHolds_26 rfl 0 rfl ?_
      refine g_iload_n B dX1_listHolds_27 rfl 3 rfl ?_
      refine g_iload B dX1_listHolds_28 4 rfl ?_
      refine g_aload_n B dX1_listHolds_30 rfl 2 rfl ?_
      refine c_get_P_pitches C (eq_of_beq h3) wf_RX1_29 dX1_listHolds_31 ?_
      refine g_iload_n B dX1_listHolds_34 rfl 3 rfl ?_
      obtain ⟨h15, hf⟩ := sat_chk hf
      refine c_iald C h15 dX1_listHolds_35 ?_
      refine g_aload_n B dX1_listHolds_36 rfl 1 rfl ?_
      refine g_iload B dX1_listHolds_37 4 rfl ?_
      obtain ⟨h16, hf⟩ := sat_chk hf
      refine c_iald C h16 dX1_listHolds_39 ?_
      refine g_isub B dX1_listHolds_40 ?_
      refine g_aload_n B dX1_listHolds_41 rfl 2 rfl ?_
      refine c_get_P_seconds C (eq_of_beq h3) wf_RX1_32 dX1_listHolds_42 ?_
      refine g_iload_n B dX1_listHolds_45 rfl 3 rfl ?_
      obtain ⟨h17, hf⟩ := sat_chk hf
      refine c_iald C h17 dX1_listHolds_46 ?_
      refine g_aload_n B dX1_listHolds_47 rfl 1 rfl ?_
      refine g_iload B dX1_listHolds_48 4 rfl ?_
      refine g_iconst (v := 1) B dX1_listHolds_50 (by decide) ?_
      refine g_iadd B dX1_listHolds_51 ?_
      obtain ⟨h18, hf⟩ := sat_chk hf
      refine c_iald C h18 dX1_listHolds_52 ?_
      refine g_isub B dX1_listHolds_53 ?_
      obtain ⟨σ19, h19, hf⟩ := sat_ca0 hf
      refine g_cVV (rest := []) B (ck_X1_listPairs C h19) mo_X1_listPairs wm_RX1_35 (by decide) (cC_o1 C) rfl rfl rfl (Nat.le_of_ble_eq_true rfl) dX1_listHolds_54 ?_
      refine g_aload_n B dX1_listHolds_57 rfl 0 rfl ?_
      refine g_iload_n B dX1_listHolds_58 rfl 3 rfl ?_
      refine g_iload B dX1_listHolds_59 4 rfl ?_
      refine g_aload_n B dX1_listHolds_61 rfl 2 rfl ?_
      refine c_get_P_seconds C (eq_of_beq h3) wf_RX1_32 dX1_listHolds_62 ?_
      refine g_iload_n B dX1_listHolds_65 rfl 3 rfl ?_
      obtain ⟨h20, hf⟩ := sat_chk hf
      refine c_iald C h20 dX1_listHolds_66 ?_
      refine g_aload_n B dX1_listHolds_67 rfl 1 rfl ?_
      refine g_iload B dX1_listHolds_68 4 rfl ?_
      obtain ⟨h21, hf⟩ := sat_chk hf
      refine c_iald C h21 dX1_listHolds_70 ?_
      refine g_isub B dX1_listHolds_71 ?_
      refine g_aload_n B dX1_listHolds_72 rfl 2 rfl ?_
      refine c_get_P_pitches C (eq_of_beq h3) wf_RX1_29 dX1_listHolds_73 ?_
      refine g_iload_n B dX1_listHolds_76 rfl 3 rfl ?_
      obtain ⟨h22, hf⟩ := sat_chk hf
      refine c_iald C h22 dX1_listHolds_77 ?_
      refine g_aload_n B dX1_listHolds_78 rfl 1 rfl ?_
      refine g_iload B dX1_listHolds_79 4 rfl ?_
      refine g_iconst (v := 1) B dX1_listHolds_81 (by decide) ?_
      refine g_iadd B dX1_listHolds_82 ?_
      obtain ⟨h23, hf⟩ := sat_chk hf
      refine c_iald C h23 dX1_listHolds_83 ?_
      refine g_isub B dX1_listHolds_84 ?_
      obtain ⟨σ24, h24, hf⟩ := sat_ca0 hf
      refine g_cVV (rest := []) B (ck_X1_listPairs C h24) mo_X1_listPairs wm_RX1_35 (by decide) (cC_o1 C) rfl rfl rfl (Nat.le_of_ble_eq_true rfl) dX1_listHolds_85 ?_
      refine g_iinc B (v12_4 + 1) [(0, .ref (kAd K 3)), (1, .ref (kAd K k1a)), (2, .ref (kAd K k2a)), (3, .int p3), (4, .int ((v12_4 + 1)))] dX1_listHolds_88 4 rfl rfl (by decide) [1, 2, 3, 4, 0] rfl ?_
      refine g_goto (tgt := 18) B dX1_listHolds_91 (by decide) ?_
      have hf := sum_l (sat_some hf)
      exact g_sub hf [0, 1, 2, 3, 4] rfl
theorem c_X1_listHolds (l : Launch) (D : va_G) (Ad : Nat → Nat) (cI cP cII : ClassId) {σ : Mm} {k1a : Nat} {k2a : Nat} {p3 : Int32} {τ : Mm} {r : Int32} (h : f_X1_listHolds σ k1a k2a p3 = some (τ, r)) : CtI l D (tysC cI cP cII) (wdC Ad cI cP cII) StC yX1_listHolds cX1_listHolds 5 .int 2 σ [.ref (Ad 3), .ref (Ad k1a), .ref (Ad k2a), .int p3] (τ, r) := by
  refine metI (Ad := Ad) (cI := cI) (cP := cP) (cII := cII) (by decide) (Nat.le_of_ble_eq_true rfl) (wdG_ok _ _ _) stOK_C rfl (fun K C G hR => ?_)
  have e : kAd K = Ad := G.2.2.2.2.2.1
  have C2 := cC_of C G
  have h9 := w_X1_listHolds C2 σ k1a k2a p3 ⟨_, h, by rw [hR]; exact ⟨rfl, rfl⟩⟩
  rw [e] at h9
  exact h9
theorem ck_X1_listHolds {K : Kx} {cc : ByteArray} {own : String} {nL d : Nat} {rty : Option FieldType} (C : CxC K cc own nL d rty) {σ : Mm} {k1a : Nat} {k2a : Nat} {p3 : Int32} {τ : Mm} {r : Int32} (h : f_X1_listHolds σ k1a k2a p3 = some (τ, r)) : CtI (kl K) (kD K) (ktys K) (kwf K) (kSt K) yX1_listHolds cX1_listHolds 5 .int 2 σ [.ref (kAd K 3), .ref (kAd K k1a), .ref (kAd K k2a), .int p3] (τ, r) := cC_eq C (P := fun l D tys wf St => CtI l D tys wf St yX1_listHolds cX1_listHolds 5 .int 2 σ [.ref (kAd K 3), .ref (kAd K k1a), .ref (kAd K k2a), .int p3] (τ, r)) (c_X1_listHolds _ _ _ _ _ _ h)
def f_X5_of (σ : Mm) (p1 : Int32) (p2 : Int32) (p3 : Int32) : Option (Mm × Int32) :=
  bn1 (f_X5_partWith σ p1 p2) (fun σ1 r1 => onul r1 (some (σ1, (-1))) (fun k1 => (if p3 = 0 then chk (kdC k1 == 2) (chk (inC (k1 + 1) p2) (some (σ1, (σ1 (k1 + 1) p2.toNatClampNeg)))) else (if p3 = 1 then chk (kdC k1 == 2) (chk (inC (k1 + 3) p2) (some (σ1, (σ1 (k1 + 3) p2.toNatClampNeg)))) else (if p3 = 2 then chk (kdC k1 == 2) (chk (inC (k1 + 5) p2) (some (σ1, (σ1 (k1 + 5) p2.toNatClampNeg)))) else (if p3 = 3 then chk (kdC k1 == 2) (bn1 (f_X3_isDouble σ1 k1 p2) (fun σ9 r9 => (if r9 = 0 then some (σ9, (-3)) else chk (inC (k1 + 2) p2) (some (σ9, (σ9 (k1 + 2) p2.toNatClampNeg)))))) else (if p3 = 4 then chk (kdC k1 == 2) (chk (inC (k1 + 4) p2) (some (σ1, (σ1 (k1 + 4) p2.toNatClampNeg)))) else (if p3 = 5 then bn1 (f_X1_listHolds σ1 1 k1 p2) (fun σ15 r15 => some (σ15, r15)) else some (σ1, (-1))))))))))
set_option maxHeartbeats 4000000 in
set_option maxRecDepth 100000 in
theorem w_X5_of {K : Kx} (C : CxC K cX5_of RX5 5 3 (some .int)) (σ : Mm) (p1 : Int32) (p2 : Int32) (p3 : Int32) (hf : Sat (f_X5_of σ p1 p2 p3) (fun o => kRt K (some (.int o.2)) o.1)) : Gj K σ 0 [(0, .ref (kAd K 0)), (1, .int p1), (2, .int p2), (3, .int p3)] [] := by
  unfold f_X5_of at hf
  have B := C.1
  refine g_aload_n B dX5_of_0 rfl 0 rfl ?_
  refine g_iload_n B dX5_of_1 rfl 1 rfl ?_
  refine g_iload_n B dX5_of_2 rfl 2 rfl ?_
  obtain ⟨σ1, r1, h1, hf⟩ := sat_ca1 hf
  refine g_cVA (rest := []) B (ck_X5_partWith C h1) mo_X5_partWith wm_RX5_51 (by decide) (cC_o3 C) rfl rfl rfl (Nat.le_of_ble_eq_true rfl) dX5_of_3 ?_
  cases r1 with
  | none =>
    have hf := sat_on0 hf
    show Gj K σ1 6 [(0, .ref (kAd K 0)), (1, .int p1), (2, .int p2), (3, .int p3)] [.null]
    refine g_astoreN B [(0, .ref (kAd K 0)), (1, .int p1), (2, .int p2), (3, .int p3), (4, .null)] dX5_of_6 (by decide) [1, 2, 3, 4, 0] rfl ?_
    refine g_aloadN B dX5_of_8 4 rfl ?_
    refine g_ifnonnullN B dX5_of_10 ?_
    refine g_iconst (v := (-1)) B dX5_of_13 (by decide) ?_
    have hf := sat_some hf
    exact g_iret B rfl rfl dX5_of_14 hf
  | some k1 =>
    have hf := sat_on1 hf
    show Gj K σ1 6 [(0, .ref (kAd K 0)), (1, .int p1), (2, .int p2), (3, .int p3)] [.ref (kAd K k1)]
    refine g_astore B [(0, .ref (kAd K 0)), (1, .int p1), (2, .int p2), (3, .int p3), (4, .ref (kAd K k1))] dX5_of_6 (by decide) [1, 2, 3, 4, 0] rfl ?_
    refine g_aload B dX5_of_8 4 rfl ?_
    refine g_ifnonnull (tgt := 15) B dX5_of_10 (by decide) ?_
    refine g_iload_n B dX5_of_15 rfl 3 rfl ?_
    by_cases c2_0 : p3 = 0
    · have hf := sat_t hf c2_0
      refine g_tabIn (tgt := 56) (off := 40) B c2_0 dX5_of_16 (by decide) (by decide) (by decide) (by decide) ?_
      refine g_aload B dX5_of_56 4 rfl ?_
      obtain ⟨h3, hf⟩ := sat_chk hf
      refine c_get_P_pitches C (eq_of_beq h3) wf_RX5_55 dX5_of_58 ?_
      refine g_iload_n B dX5_of_61 rfl 2 rfl ?_
      obtain ⟨h4, hf⟩ := sat_chk hf
      refine c_iald C h4 dX5_of_62 ?_
      have hf := sat_some hf
      exact g_iret B rfl rfl dX5_of_63 hf
    · have hf := sat_f hf c2_0
      by_cases c2_1 : p3 = 1
      · have hf := sat_t hf c2_1
        refine g_tabIn (tgt := 64) (off := 48) B c2_1 dX5_of_16 (by decide) (by decide) (by decide) (by decide) ?_
        refine g_aload B dX5_of_64 4 rfl ?_
        obtain ⟨h5, hf⟩ := sat_chk hf
        refine c_get_P_lengths C (eq_of_beq h5) wf_RX5_64 dX5_of_66 ?_
        refine g_iload_n B dX5_of_69 rfl 2 rfl ?_
        obtain ⟨h6, hf⟩ := sat_chk hf
        refine c_iald C h6 dX5_of_70 ?_
        have hf := sat_some hf
        exact g_iret B rfl rfl dX5_of_71 hf
      · have hf := sat_f hf c2_1
        by_cases c2_2 : p3 = 2
        · have hf := sat_t hf c2_2
          refine g_tabIn (tgt := 72) (off := 56) B c2_2 dX5_of_16 (by decide) (by decide) (by decide) (by decide) ?_
          refine g_aload B dX5_of_72 4 rfl ?_
          obtain ⟨h7, hf⟩ := sat_chk hf
          refine c_get_P_marks C (eq_of_beq h7) wf_RX5_61 dX5_of_74 ?_
          refine g_iload_n B dX5_of_77 rfl 2 rfl ?_
          obtain ⟨h8, hf⟩ := sat_chk hf
          refine c_iald C h8 dX5_of_78 ?_
          have hf := sat_some hf
          exact g_iret B rfl rfl dX5_of_79 hf
        · have hf := sat_f hf c2_2
          by_cases c2_3 : p3 = 3
          · have hf := sat_t hf c2_3
            refine g_tabIn (tgt := 80) (off := 64) B c2_3 dX5_of_16 (by decide) (by decide) (by decide) (by decide) ?_
            refine g_aload B dX5_of_80 4 rfl ?_
            refine g_iload_n B dX5_of_82 rfl 2 rfl ?_
            obtain ⟨h10, hf⟩ := sat_chk hf
            obtain ⟨σ9, r9, h9, hf⟩ := sat_ca1 hf
            refine g_cVI (rest := []) B (ck_X3_isDouble C h9) mo_X3_isDouble wm_RX5_67 (by decide) (cC_o2 C (eq_of_beq h10)) rfl rfl rfl (Nat.le_of_ble_eq_true rfl) dX5_of_83 ?_
            refine g_if_eq (tgt := 99) B dX5_of_86 (by decide) (fun c11 => ?_) (fun c11 => ?_)
            · have hf := sat_t hf c11
              refine g_bipush (v := (-3)) B dX5_of_99 (by decide) ?_
              have hf := sat_some hf
              exact g_iret B rfl rfl dX5_of_101 hf
            · have hf := sat_f hf c11
              refine g_aload B dX5_of_89 4 rfl ?_
              refine c_get_P_seconds C (eq_of_beq h10) wf_RX5_58 dX5_of_91 ?_
              refine g_iload_n B dX5_of_94 rfl 2 rfl ?_
              obtain ⟨h12, hf⟩ := sat_chk hf
              refine c_iald C h12 dX5_of_95 ?_
              refine g_goto (tgt := 101) B dX5_of_96 (by decide) ?_
              have hf := sat_some hf
              exact g_iret B rfl rfl dX5_of_101 hf
          · have hf := sat_f hf c2_3
            by_cases c2_4 : p3 = 4
            · have hf := sat_t hf c2_4
              refine g_tabIn (tgt := 102) (off := 86) B c2_4 dX5_of_16 (by decide) (by decide) (by decide) (by decide) ?_
              refine g_aload B dX5_of_102 4 rfl ?_
              obtain ⟨h13, hf⟩ := sat_chk hf
              refine c_get_P_onsets C (eq_of_beq h13) wf_RX5_71 dX5_of_104 ?_
              refine g_iload_n B dX5_of_107 rfl 2 rfl ?_
              obtain ⟨h14, hf⟩ := sat_chk hf
              refine c_iald C h14 dX5_of_108 ?_
              have hf := sat_some hf
              exact g_iret B rfl rfl dX5_of_109 hf
            · have hf := sat_f hf c2_4
              by_cases c2_5 : p3 = 5
              · have hf := sat_t hf c2_5
                refine g_tabIn (tgt := 110) (off := 94) B c2_5 dX5_of_16 (by decide) (by decide) (by decide) (by decide) ?_
                refine g_aload_n B dX5_of_110 rfl 0 rfl ?_
                refine c_get_F_desk C wf_RX5_23 dX5_of_111 ?_
                refine g_aload_n B dX5_of_114 rfl 0 rfl ?_
                refine c_get_F_open C wf_RX5_7 dX5_of_115 ?_
                refine g_aload B dX5_of_118 4 rfl ?_
                refine g_iload_n B dX5_of_120 rfl 2 rfl ?_
                obtain ⟨σ15, r15, h15, hf⟩ := sat_ca1 hf
                refine g_cVI (rest := []) B (ck_X1_listHolds C h15) mo_X1_listHolds wm_RX5_74 (by decide) (cC_o1 C) rfl rfl rfl (Nat.le_of_ble_eq_true rfl) dX5_of_121 ?_
                have hf := sat_some hf
                exact g_iret B rfl rfl dX5_of_124 hf
              · have hf := sat_f hf c2_5
                refine g_tabOut (tgt := 125) B (by
                  have z0 := ne_toI c2_0 (z := 0) (by decide)
                  have z1 := ne_toI c2_1 (z := 1) (by decide)
                  have z2 := ne_toI c2_2 (z := 2) (by decide)
                  have z3 := ne_toI c2_3 (z := 3) (by decide)
                  have z4 := ne_toI c2_4 (z := 4) (by decide)
                  have z5 := ne_toI c2_5 (z := 5) (by decide)
                  omega) dX5_of_16 (by decide) ?_
                refine g_iconst (v := (-1)) B dX5_of_125 (by decide) ?_
                have hf := sat_some hf
                exact g_iret B rfl rfl dX5_of_126 hf
theorem c_X5_of (l : Launch) (D : va_G) (Ad : Nat → Nat) (cI cP cII : ClassId) {σ : Mm} {p1 : Int32} {p2 : Int32} {p3 : Int32} {τ : Mm} {r : Int32} (h : f_X5_of σ p1 p2 p3 = some (τ, r)) : CtI l D (tysC cI cP cII) (wdC Ad cI cP cII) StC yX5_of cX5_of 5 .int 3 σ [.ref (Ad 0), .int p1, .int p2, .int p3] (τ, r) := by
  refine metI (Ad := Ad) (cI := cI) (cP := cP) (cII := cII) (by decide) (Nat.le_of_ble_eq_true rfl) (wdG_ok _ _ _) stOK_C rfl (fun K C G hR => ?_)
  have e : kAd K = Ad := G.2.2.2.2.2.1
  have C2 := cC_of C G
  have h9 := w_X5_of C2 σ p1 p2 p3 ⟨_, h, by rw [hR]; exact ⟨rfl, rfl⟩⟩
  rw [e] at h9
  exact h9
theorem ck_X5_of {K : Kx} {cc : ByteArray} {own : String} {nL d : Nat} {rty : Option FieldType} (C : CxC K cc own nL d rty) {σ : Mm} {p1 : Int32} {p2 : Int32} {p3 : Int32} {τ : Mm} {r : Int32} (h : f_X5_of σ p1 p2 p3 = some (τ, r)) : CtI (kl K) (kD K) (ktys K) (kwf K) (kSt K) yX5_of cX5_of 5 .int 3 σ [.ref (kAd K 0), .int p1, .int p2, .int p3] (τ, r) := cC_eq C (P := fun l D tys wf St => CtI l D tys wf St yX5_of cX5_of 5 .int 3 σ [.ref (kAd K 0), .int p1, .int p2, .int p3] (τ, r)) (c_X5_of _ _ _ _ _ _ h)
