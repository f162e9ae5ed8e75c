set_option maxHeartbeats 4000000 in
set_option maxRecDepth 100000 in
theorem c_X3_put {l : Launch} {D : va_G} {g : Nat → Nat → Nat} {ca : Nat → ClassId} {M : Mm} {t : Nat → Nat} {n : Nat} (hT : TC M t n) (hn : n + 4 ≤ 640) (x : Int32) : Ct l D g ca md_X3_put [.ref (g 13 0), .int x] M (Rv (fun M1 => TC M1 (t4 t n x) (n + 1 + 1 + 1 + 1) ∧ Fo 13 M M1)) := by
  refine Ct.of (by decide) rfl (Nat.le_of_ble_eq_true rfl) ?_
  show G l D g ca md_X3_put 0 [(0, .ref (g 13 0)), (1, .int x)] [] M _
  refine g_bipush 2 (nI 24) dX3_put_0 rfl rfl ?_
  refine g_istore_n 3 [(2, .int (nI 24)), (0, .ref (g 13 0)), (1, .int x)] dX3_put_2 rfl (by decide) rfl ?_
  refine g_iload_n 4 0 dX3_put_3 rfl rfl ?_
  refine g_if_lt 46 7 dX3_put_4 rfl rfl (fun c4 => ?_) (fun c4 => ?_)
  · exact absurd c4 (by decide)
  · refine g_aload_n 8 1 dX3_put_7 rfl rfl ?_
    refine g_get 11 (nI n) dX3_put_8 rfl fX3_15 rfl (by decide) rfl hT.1 ?_
    refine g_sipush 14 (nI 640) dX3_put_11 rfl rfl ?_
    refine g_icmpN_ge 46 17 dX3_put_14 rfl rfl (by omega) (by omega) (fun c14 => ?_) (fun c14 => ?_)
    · exact absurd c14 (by omega)
    · refine g_aload_n 18 1 dX3_put_17 rfl rfl ?_
      refine g_geta 21 1 dX3_put_18 rfl fX3_9 rfl (by decide) rfl rfl ?_
      refine g_aload_n 22 1 dX3_put_21 rfl rfl ?_
      refine g_get 25 (nI n) dX3_put_22 rfl fX3_15 rfl (by decide) rfl hT.1 ?_
      refine g_iload_n 26 2 dX3_put_25 rfl rfl ?_
      refine g_iload_n 27 0 dX3_put_26 rfl rfl ?_
      refine g_ishr 28 (x >>> (nI 24 &&& 31)) dX3_put_27 rfl rfl ?_
      refine g_i2b 29 ((x >>> (nI 24 &&& 31)).toInt8.toInt32) dX3_put_28 rfl rfl ?_
      refine g_bast 30 dX3_put_29 rfl rfl (by decide) rfl (by decide) (by omega) ?_
      refine g_aload_n 31 1 dX3_put_30 rfl rfl ?_
      refine g_dup 32 dX3_put_31 rfl rfl ?_
      refine g_get 35 (nI n) dX3_put_32 rfl fX3_15 rfl (by decide) rfl ((wr_ne (by omega)).trans hT.1) ?_
      refine g_iconst 36 (nI 1) dX3_put_35 rfl rfl ?_
      refine g_iadd 37 (nI (n + 1)) dX3_put_36 rfl (nI_add n 1) ?_
      refine g_put 40 dX3_put_37 rfl fX3_15 pX3_1 rfl (by decide) rfl ?_
      refine g_iinc 43 (nI 16) [(2, .int (nI 16)), (0, .ref (g 13 0)), (1, .int x)] dX3_put_40 rfl 0 rfl rfl (by decide) rfl ?_
      refine g_goto 3 dX3_put_43 rfl ?_
      refine g_iload_n 4 0 dX3_put_3 rfl rfl ?_
      refine g_if_lt 46 7 dX3_put_4 rfl rfl (fun c4 => ?_) (fun c4 => ?_)
      · exact absurd c4 (by decide)
      · refine g_aload_n 8 1 dX3_put_7 rfl rfl ?_
        refine g_get 11 (nI (n + 1)) dX3_put_8 rfl fX3_15 rfl (by decide) rfl wr_eq ?_
        refine g_sipush 14 (nI 640) dX3_put_11 rfl rfl ?_
        refine g_icmpN_ge 46 17 dX3_put_14 rfl rfl (by omega) (by omega) (fun c14 => ?_) (fun c14 => ?_)
        · exact absurd c14 (by omega)
        · refine g_aload_n 18 1 dX3_put_17 rfl rfl ?_
          refine g_geta 21 1 dX3_put_18 rfl fX3_9 rfl (by decide) rfl rfl ?_
          refine g_aload_n 22 1 dX3_put_21 rfl rfl ?_
          refine g_get 25 (nI (n + 1)) dX3_put_22 rfl fX3_15 rfl (by decide) rfl wr_eq ?_
          refine g_iload_n 26 2 dX3_put_25 rfl rfl ?_
          refine g_iload_n 27 0 dX3_put_26 rfl rfl ?_
          refine g_ishr 28 (x >>> (nI 16 &&& 31)) dX3_put_27 rfl rfl ?_
          refine g_i2b 29 ((x >>> (nI 16 &&& 31)).toInt8.toInt32) dX3_put_28 rfl rfl ?_
          refine g_bast 30 dX3_put_29 rfl rfl (by decide) rfl (by decide) (by omega) ?_
          refine g_aload_n 31 1 dX3_put_30 rfl rfl ?_
          refine g_dup 32 dX3_put_31 rfl rfl ?_
          refine g_get 35 (nI (n + 1)) dX3_put_32 rfl fX3_15 rfl (by decide) rfl ((wr_ne (by omega)).trans wr_eq) ?_
          refine g_iconst 36 (nI 1) dX3_put_35 rfl rfl ?_
          refine g_iadd 37 (nI ((n + 1) + 1)) dX3_put_36 rfl (nI_add (n + 1) 1) ?_
          refine g_put 40 dX3_put_37 rfl fX3_15 pX3_1 rfl (by decide) rfl ?_
          refine g_iinc 43 (nI 8) [(2, .int (nI 8)), (0, .ref (g 13 0)), (1, .int x)] dX3_put_40 rfl 0 rfl rfl (by decide) rfl ?_
          refine g_goto 3 dX3_put_43 rfl ?_
          refine g_iload_n 4 0 dX3_put_3 rfl rfl ?_
          refine g_if_lt 46 7 dX3_put_4 rfl rfl (fun c4 => ?_) (fun c4 => ?_)
          · exact absurd c4 (by decide)
          · refine g_aload_n 8 1 dX3_put_7 rfl rfl ?_
            refine g_get 11 (nI ((n + 1) + 1)) dX3_put_8 rfl fX3_15 rfl (by decide) rfl wr_eq ?_
            refine g_sipush 14 (nI 640) dX3_put_11 rfl rfl ?_
            refine g_icmpN_ge 46 17 dX3_put_14 rfl rfl (by omega) (by omega) (fun c14 => ?_) (fun c14 => ?_)
            · exact absurd c14 (by omega)
            · refine g_aload_n 18 1 dX3_put_17 rfl rfl ?_
              refine g_geta 21 1 dX3_put_18 rfl fX3_9 rfl (by decide) rfl rfl ?_
              refine g_aload_n 22 1 dX3_put_21 rfl rfl ?_
              refine g_get 25 (nI ((n + 1) + 1)) dX3_put_22 rfl fX3_15 rfl (by decide) rfl wr_eq ?_
              refine g_iload_n 26 2 dX3_put_25 rfl rfl ?_
              refine g_iload_n 27 0 dX3_put_26 rfl rfl ?_
              refine g_ishr 28 (x >>> (nI 8 &&& 31)) dX3_put_27 rfl rfl ?_
              refine g_i2b 29 ((x >>> (nI 8 &&& 31)).toInt8.toInt32) dX3_put_28 rfl rfl ?_
              refine g_bast 30 dX3_put_29 rfl rfl (by decide) rfl (by decide) (by omega) ?_
              refine g_aload_n 31 1 dX3_put_30 rfl rfl ?_
              refine g_dup 32 dX3_put_31 rfl rfl ?_
              refine g_get 35 (nI ((n + 1) + 1)) dX3_put_32 rfl fX3_15 rfl (by decide) rfl ((wr_ne (by omega)).trans wr_eq) ?_
              refine g_iconst 36 (nI 1) dX3_put_35 rfl rfl ?_
              refine g_iadd 37 (nI (((n + 1) + 1) + 1)) dX3_put_36 rfl (nI_add ((n + 1) + 1) 1) ?_
              refine g_put 40 dX3_put_37 rfl fX3_15 pX3_1 rfl (by decide) rfl ?_
              refine g_iinc 43 (nI 0) [(2, .int (nI 0)), (0, .ref (g 13 0)), (1, .int x)] dX3_put_40 rfl 0 rfl rfl (by decide) rfl ?_
              refine g_goto 3 dX3_put_43 rfl ?_
              refine g_iload_n 4 0 dX3_put_3 rfl rfl ?_
              refine g_if_lt 46 7 dX3_put_4 rfl rfl (fun c4 => ?_) (fun c4 => ?_)
              · exact absurd c4 (by decide)
              · refine g_aload_n 8 1 dX3_put_7 rfl rfl ?_
                refine g_get 11 (nI (((n + 1) + 1) + 1)) dX3_put_8 rfl fX3_15 rfl (by decide) rfl wr_eq ?_
                refine g_sipush 14 (nI 640) dX3_put_11 rfl rfl ?_
                refine g_icmpN_ge 46 17 dX3_put_14 rfl rfl (by omega) (by omega) (fun c14 => ?_) (fun c14 => ?_)
                · exact absurd c14 (by omega)
                · refine g_aload_n 18 1 dX3_put_17 rfl rfl ?_
                  refine g_geta 21 1 dX3_put_18 rfl fX3_9 rfl (by decide) rfl rfl ?_
                  refine g_aload_n 22 1 dX3_put_21 rfl rfl ?_
                  refine g_get 25 (nI (((n + 1) + 1) + 1)) dX3_put_22 rfl fX3_15 rfl (by decide) rfl wr_eq ?_
                  refine g_iload_n 26 2 dX3_put_25 rfl rfl ?_
                  refine g_iload_n 27 0 dX3_put_26 rfl rfl ?_
                  refine g_ishr 28 (x >>> (nI 0 &&& 31)) dX3_put_27 rfl rfl ?_
                  refine g_i2b 29 ((x >>> (nI 0 &&& 31)).toInt8.toInt32) dX3_put_28 rfl rfl ?_
                  refine g_bast 30 dX3_put_29 rfl rfl (by decide) rfl (by decide) (by omega) ?_
                  refine g_aload_n 31 1 dX3_put_30 rfl rfl ?_
                  refine g_dup 32 dX3_put_31 rfl rfl ?_
                  refine g_get 35 (nI (((n + 1) + 1) + 1)) dX3_put_32 rfl fX3_15 rfl (by decide) rfl ((wr_ne (by omega)).trans wr_eq) ?_
                  refine g_iconst 36 (nI 1) dX3_put_35 rfl rfl ?_
                  refine g_iadd 37 (nI ((((n + 1) + 1) + 1) + 1)) dX3_put_36 rfl (nI_add (((n + 1) + 1) + 1) 1) ?_
                  refine g_put 40 dX3_put_37 rfl fX3_15 pX3_1 rfl (by decide) rfl ?_
                  refine g_iinc 43 ((-8)) [(2, .int (-8)), (0, .ref (g 13 0)), (1, .int x)] dX3_put_40 rfl 0 rfl rfl (by decide) rfl ?_
                  refine g_goto 3 dX3_put_43 rfl ?_
                  refine g_iload_n 4 0 dX3_put_3 rfl rfl ?_
                  refine g_if_lt 46 7 dX3_put_4 rfl rfl (fun c4 => ?_) (fun c4 => ?_)
                  · refine g_vret rfl dX3_put_46 ⟨⟨wr_eq, fun i hi => ?_⟩, ?_⟩
                    · rcases (show i < n ∨ i = n ∨ i = n + 1 ∨ i = n + 1 + 1 ∨ i = n + 1 + 1 + 1 by omega) with z | rfl | rfl | rfl | rfl
                      · rw [t4_lo z, wr_ne (by omega), wr_ne (by omega), wr_ne (by omega), wr_ne (by omega), wr_ne (by omega), wr_ne (by omega), wr_ne (by omega), wr_ne (by omega)]; exact hT.2 i z
                      · rw [t4_0, wr_ne (by omega), wr_ne (by omega), wr_ne (by omega), wr_ne (by omega), wr_ne (by omega), wr_ne (by omega), wr_ne (by omega), wr_eq, bt_cls x 24 (by omega)]
                      · rw [t4_1, wr_ne (by omega), wr_ne (by omega), wr_ne (by omega), wr_ne (by omega), wr_ne (by omega), wr_eq, bt_cls x 16 (by omega)]
                      · rw [t4_2, wr_ne (by omega), wr_ne (by omega), wr_ne (by omega), wr_eq, bt_cls x 8 (by omega)]
                      · rw [t4_3, wr_ne (by omega), wr_eq, bt_cls x 0 (by omega)]
                    · exact ((((((Fo.wr.tr Fo.wr).tr Fo.wr).tr Fo.wr).tr Fo.wr).tr Fo.wr).tr Fo.wr).tr Fo.wr
                  · exact absurd c4 (by decide)

set_option maxHeartbeats 4000000 in
set_option maxRecDepth 100000 in
theorem c_X7_lays {l : Launch} {D : va_G} {g : Nat → Nat → Nat} {ca : Nat → ClassId} {M : Mm} {t : Nat → Nat} {n : Nat} (hT : TR M t n) (hn : n + 4 ≤ 640) (x : Int32) : Ct l D g ca md_X7_lays [.ref (g 18 0), .int x] M (Rv (fun M1 => TR M1 (t4 t n x) (n + 1 + 1 + 1 + 1) ∧ FTp M M1)) := by
  refine Ct.of (by decide) rfl (Nat.le_of_ble_eq_true rfl) ?_
  show G l D g ca md_X7_lays 0 [(0, .ref (g 18 0)), (1, .int x)] [] M _
  refine g_bipush 2 (nI 24) dX7_lays_0 rfl rfl ?_
  refine g_istore_n 3 [(2, .int (nI 24)), (0, .ref (g 18 0)), (1, .int x)] dX7_lays_2 rfl (by decide) rfl ?_
  refine g_iload_n 4 0 dX7_lays_3 rfl rfl ?_
  refine g_if_lt 39 7 dX7_lays_4 rfl rfl (fun c4 => ?_) (fun c4 => ?_)
  · exact absurd c4 (by decide)
  · refine g_aload_n 8 1 dX7_lays_7 rfl rfl ?_
    refine g_geta 11 2 dX7_lays_8 rfl fX7_7 rfl (by decide) rfl rfl ?_
    refine g_aload_n 12 1 dX7_lays_11 rfl rfl ?_
    refine g_get 15 (nI n) dX7_lays_12 rfl fX7_11 rfl (by decide) rfl hT.1 ?_
    refine g_iload_n 16 2 dX7_lays_15 rfl rfl ?_
    refine g_iload_n 17 0 dX7_lays_16 rfl rfl ?_
    refine g_iushr 18 ((x.toUInt32 >>> ((nI 24).toUInt32 &&& Int32.toUInt32 31)).toInt32) dX7_lays_17 rfl rfl ?_
    refine g_sipush 21 (nI 255) dX7_lays_18 rfl rfl ?_
    refine g_iand 22 (((x.toUInt32 >>> ((nI 24).toUInt32 &&& Int32.toUInt32 31)).toInt32) &&& (nI 255)) dX7_lays_21 rfl rfl ?_
    refine g_iast 23 dX7_lays_22 rfl rfl (by decide) rfl (by decide) (by omega) ?_
    refine g_aload_n 24 1 dX7_lays_23 rfl rfl ?_
    refine g_dup 25 dX7_lays_24 rfl rfl ?_
    refine g_get 28 (nI n) dX7_lays_25 rfl fX7_11 rfl (by decide) rfl ((wr_ne (by omega)).trans hT.1) ?_
    refine g_iconst 29 (nI 1) dX7_lays_28 rfl rfl ?_
    refine g_iadd 30 (nI (n + 1)) dX7_lays_29 rfl (nI_add n 1) ?_
    refine g_put 33 dX7_lays_30 rfl fX7_11 pX7_2 rfl (by decide) rfl ?_
    refine g_iinc 36 (nI 16) [(2, .int (nI 16)), (0, .ref (g 18 0)), (1, .int x)] dX7_lays_33 rfl 0 rfl rfl (by decide) rfl ?_
    refine g_goto 3 dX7_lays_36 rfl ?_
    refine g_iload_n 4 0 dX7_lays_3 rfl rfl ?_
    refine g_if_lt 39 7 dX7_lays_4 rfl rfl (fun c4 => ?_) (fun c4 => ?_)
    · exact absurd c4 (by decide)
    · refine g_aload_n 8 1 dX7_lays_7 rfl rfl ?_
      refine g_geta 11 2 dX7_lays_8 rfl fX7_7 rfl (by decide) rfl rfl ?_
      refine g_aload_n 12 1 dX7_lays_11 rfl rfl ?_
      refine g_get 15 (nI (n + 1)) dX7_lays_12 rfl fX7_11 rfl (by decide) rfl wr_eq ?_
      refine g_iload_n 16 2 dX7_lays_15 rfl rfl ?_
      refine g_iload_n 17 0 dX7_lays_16 rfl rfl ?_
      refine g_iushr 18 ((x.toUInt32 >>> ((nI 16).toUInt32 &&& Int32.toUInt32 31)).toInt32) dX7_lays_17 rfl rfl ?_
      refine g_sipush 21 (nI 255) dX7_lays_18 rfl rfl ?_
      refine g_iand 22 (((x.toUInt32 >>> ((nI 16).toUInt32 &&& Int32.toUInt32 31)).toInt32) &&& (nI 255)) dX7_lays_21 rfl rfl ?_
      refine g_iast 23 dX7_lays_22 rfl rfl (by decide) rfl (by decide) (by omega) ?_
      refine g_aload_n 24 1 dX7_lays_23 rfl rfl ?_
      refine g_dup 25 dX7_lays_24 rfl rfl ?_
      refine g_get 28 (nI (n + 1)) dX7_lays_25 rfl fX7_11 rfl (by decide) rfl ((wr_ne (by omega)).trans wr_eq) ?_
      refine g_iconst 29 (nI 1) dX7_lays_28 rfl rfl ?_
      refine g_iadd 30 (nI ((n + 1) + 1)) dX7_lays_29 rfl (nI_add (n + 1) 1) ?_
      refine g_put 33 dX7_lays_30 rfl fX7_11 pX7_2 rfl (by decide) rfl ?_
      refine g_iinc 36 (nI 8) [(2, .int (nI 8)), (0, .ref (g 18 0)), (1, .int x)] dX7_lays_33 rfl 0 rfl rfl (by decide) rfl ?_
      refine g_goto 3 dX7_lays_36 rfl ?_
      refine g_iload_n 4 0 dX7_lays_3 rfl rfl ?_
      refine g_if_lt 39 7 dX7_lays_4 rfl rfl (fun c4 => ?_) (fun c4 => ?_)
      · exact absurd c4 (by decide)
      · refine g_aload_n 8 1 dX7_lays_7 rfl rfl ?_
        refine g_geta 11 2 dX7_lays_8 rfl fX7_7 rfl (by decide) rfl rfl ?_
        refine g_aload_n 12 1 dX7_lays_11 rfl rfl ?_
        refine g_get 15 (nI ((n + 1) + 1)) dX7_lays_12 rfl fX7_11 rfl (by decide) rfl wr_eq ?_
        refine g_iload_n 16 2 dX7_lays_15 rfl rfl ?_
        refine g_iload_n 17 0 dX7_lays_16 rfl rfl ?_
        refine g_iushr 18 ((x.toUInt32 >>> ((nI 8).toUInt32 &&& Int32.toUInt32 31)).toInt32) dX7_lays_17 rfl rfl ?_
        refine g_sipush 21 (nI 255) dX7_lays_18 rfl rfl ?_
        refine g_iand 22 (((x.toUInt32 >>> ((nI 8).toUInt32 &&& Int32.toUInt32 31)).toInt32) &&& (nI 255)) dX7_lays_21 rfl rfl ?_
        refine g_iast 23 dX7_lays_22 rfl rfl (by decide) rfl (by decide) (by omega) ?_
        refine g_aload_n 24 1 dX7_lays_23 rfl rfl ?_
        refine g_dup 25 dX7_lays_24 rfl rfl ?_
        refine g_get 28 (nI ((n + 1) + 1)) dX7_lays_25 rfl fX7_11 rfl (by decide) rfl ((wr_ne (by omega)).trans wr_eq) ?_
        refine g_iconst 29 (nI 1) dX7_lays_28 rfl rfl ?_
        refine g_iadd 30 (nI (((n + 1) + 1) + 1)) dX7_lays_29 rfl (nI_add ((n + 1) + 1) 1) ?_
        refine g_put 33 dX7_lays_30 rfl fX7_11 pX7_2 rfl (by decide) rfl ?_
        refine g_iinc 36 (nI 0) [(2, .int (nI 0)), (0, .ref (g 18 0)), (1, .int x)] dX7_lays_33 rfl 0 rfl rfl (by decide) rfl ?_
        refine g_goto 3 dX7_lays_36 rfl ?_
        refine g_iload_n 4 0 dX7_lays_3 rfl rfl ?_
        refine g_if_lt 39 7 dX7_lays_4 rfl rfl (fun c4 => ?_) (fun c4 => ?_)
        · exact absurd c4 (by decide)
        · refine g_aload_n 8 1 dX7_lays_7 rfl rfl ?_
          refine g_geta 11 2 dX7_lays_8 rfl fX7_7 rfl (by decide) rfl rfl ?_
          refine g_aload_n 12 1 dX7_lays_11 rfl rfl ?_
          refine g_get 15 (nI (((n + 1) + 1) + 1)) dX7_lays_12 rfl fX7_11 rfl (by decide) rfl wr_eq ?_
          refine g_iload_n 16 2 dX7_lays_15 rfl rfl ?_
          refine g_iload_n 17 0 dX7_lays_16 rfl rfl ?_
          refine g_iushr 18 ((x.toUInt32 >>> ((nI 0).toUInt32 &&& Int32.toUInt32 31)).toInt32) dX7_lays_17 rfl rfl ?_
          refine g_sipush 21 (nI 255) dX7_lays_18 rfl rfl ?_
          refine g_iand 22 (((x.toUInt32 >>> ((nI 0).toUInt32 &&& Int32.toUInt32 31)).toInt32) &&& (nI 255)) dX7_lays_21 rfl rfl ?_
          refine g_iast 23 dX7_lays_22 rfl rfl (by decide) rfl (by decide) (by omega) ?_
          refine g_aload_n 24 1 dX7_lays_23 rfl rfl ?_
          refine g_dup 25 dX7_lays_24 rfl rfl ?_
          refine g_get 28 (nI (((n + 1) + 1) + 1)) dX7_lays_25 rfl fX7_11 rfl (by decide) rfl ((wr_ne (by omega)).trans wr_eq) ?_
          refine g_iconst 29 (nI 1) dX7_lays_28 rfl rfl ?_
          refine g_iadd 30 (nI ((((n + 1) + 1) + 1) + 1)) dX7_lays_29 rfl (nI_add (((n + 1) + 1) + 1) 1) ?_
          refine g_put 33 dX7_lays_30 rfl fX7_11 pX7_2 rfl (by decide) rfl ?_
          refine g_iinc 36 ((-8)) [(2, .int (-8)), (0, .ref (g 18 0)), (1, .int x)] dX7_lays_33 rfl 0 rfl rfl (by decide) rfl ?_
          refine g_goto 3 dX7_lays_36 rfl ?_
          refine g_iload_n 4 0 dX7_lays_3 rfl rfl ?_
          refine g_if_lt 39 7 dX7_lays_4 rfl rfl (fun c4 => ?_) (fun c4 => ?_)
          · refine g_vret rfl dX7_lays_39 ⟨⟨wr_eq, fun i hi => ?_⟩, ?_⟩
            · rcases (show i < n ∨ i = n ∨ i = n + 1 ∨ i = n + 1 + 1 ∨ i = n + 1 + 1 + 1 by omega) with z | rfl | rfl | rfl | rfl
              · rw [t4_lo z, wr_ne (by omega), wr_ne (by omega), wr_ne (by omega), wr_ne (by omega), wr_ne (by omega), wr_ne (by omega), wr_ne (by omega), wr_ne (by omega)]; exact hT.2 i z
              · rw [t4_0, wr_ne (by omega), wr_ne (by omega), wr_ne (by omega), wr_ne (by omega), wr_ne (by omega), wr_ne (by omega), wr_ne (by omega), wr_eq, bt_ref x 24 (by omega)]
              · rw [t4_1, wr_ne (by omega), wr_ne (by omega), wr_ne (by omega), wr_ne (by omega), wr_ne (by omega), wr_eq, bt_ref x 16 (by omega)]
              · rw [t4_2, wr_ne (by omega), wr_ne (by omega), wr_ne (by omega), wr_eq, bt_ref x 8 (by omega)]
              · rw [t4_3, wr_ne (by omega), wr_eq, bt_ref x 0 (by omega)]
            · exact (((((((FTp.wr (by omega)).tr (FTp.wr (by omega))).tr (FTp.wr (by omega))).tr (FTp.wr (by omega))).tr (FTp.wr (by omega))).tr (FTp.wr (by omega))).tr (FTp.wr (by omega))).tr (FTp.wr (by omega))
          · exact absurd c4 (by decide)
