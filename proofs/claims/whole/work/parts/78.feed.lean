set_option maxHeartbeats 4000000 in
set_option maxRecDepth 100000 in
theorem c_X3_put {l : Launch} {D : va_G} {g : Nat → Nat → Nat} {ca : Nat → ClassId} {M : Mm} {t : Nat → Nat} {n : Nat} (hT : TC M t n) (hn : n + 4 ≤ 640) (x : Int32) : Ct l D g ca md_X3_put [.ref (g 13 0), .int x] M (Rv (fun M1 => TC M1 (t4 t n x) (n + 1 + 1 + 1 + 1) ∧ Fo 13 M M1)) := by
  refine Ct.of (by decide) rfl (Nat.le_of_ble_eq_true rfl) ?_
  show G l D g ca md_X3_put 0 [(0, .ref (g 13 0)), (1, .int x)] [] M _
  refine g_bipush 2 (nI 24) dX3_put_0 rfl rfl ?_
  refine g_istore_n 3 [(2, .int (nI 24)), (0, .ref (g 13 0)), (1, .int x)] dX3_put_2 rfl (by decide) rfl ?_
  refine g_iload_n 4 0 dX3_put_3 rfl rfl ?_
  refine g_if_lt 46 7 dX3_put_4 rfl rfl (fun c4 => ?_) (fun c4 => ?_)
  · exact absurd c4 (by decide)
  · refine g_aload_n 8 1 dX3_put_7 rfl rfl ?_
    refine g_get 11 (nI n) dX3_put_8 rfl fX3_15 rfl (by decide) rfl hT.1 ?_
    refine g_sipush 14 (nI 640) dX3_put_11 rfl rfl ?_
    refine g_icmpN_ge 46 17 dX3_put_14 rfl rfl (by omega) (by omega) (fun c14 => ?_) (fun c14 => ?_)
    · exact absurd c14 (by omega)
    · refine g_aload_n 18 1 dX3_put_17 rfl rfl ?_
      refine g_geta 21 1 dX3_put_18 rfl fX3_9 rfl (by decide) rfl rfl ?_
      refine g_aload_n 22 1 dX3_put_21 rfl rfl ?_
      refine g_get 25 (nI n) dX3_put_22 rfl fX3_15 rfl (by decide) rfl hT.1 ?_
      refine g_iload_n 26 2 dX3_put_25 rfl rfl ?_
      refine g_iload_n 27 0 dX3_put_26 rfl rfl ?_
      refine g_ishr 28 (x >>> (nI 24 &&& 31)) dX3_put_27 rfl rfl ?_
      refine g_i2b 29 ((x >>> (nI 24 &&& 31)).toInt8.toInt32) dX3_put_28 rfl rfl ?_
      refine g_bast 30 dX3_put_29 rfl rfl (by decide) rfl (by decide) (by omega) ?_
      refine g_aload_n 31 1 dX3_put_30 rfl rfl ?_
      refine g_dup 32 dX3_put_31 rfl rfl ?_
      refine g_get 35 (nI n) dX3_put_32 rfl fX3_15 rfl (by decide) rfl ((wr_ne (by omega)).trans hT.1) ?_
      refine g_iconst 36 (nI 1) dX3_put_35 rfl rfl ?_
      refine g_iadd 37 (nI (n + 1)) dX3_put_36 rfl (nI_add n 1) ?_
      refine g_put 40 dX3_put_37 rfl fX3_15 pX3_1 rfl (by decide) rfl ?_
      refine g_iinc 43 (nI 16) [(2, .int (nI 16)), (0, .ref (g 13 0)), (1, .int x)] dX3_put_40 rfl 0 rfl rfl (by decide) rfl ?_
      refine g_goto 3 dX3_put_43 rfl ?_
      refine g_iload_n 4 0 dX3_put_3 rfl rfl ?_
      refine g_if_lt 46 7 dX3_put_4 rfl rfl (fun c4 => ?_) (fun c4 => ?_)
      · exact absurd c4 (by decide)
      · refine g_aload_n 8 1 dX3_put_7 rfl rfl ?_
        refine g_get 11 (nI (n + 1)) dX3_put_8 rfl fX3_15 rfl (by decide) rfl wr_eq ?_
        refine g_sipush 14 (nI 640) dX3_put_11 rfl rfl ?_
        refine g_icmpN_ge 46 17 dX3_put_14 rfl rfl (by omega) (by omega) (fun c14 => ?_) (fun c14 => ?_)
        · exact absurd c14 (by omega)
        · refine g_aload_n 18 1 dX3_put_17 rfl rfl ?_
          refine g_geta 21 1 dX3_put_18 rfl fX3_9 rfl (by decide) rfl rfl ?_
          refine g_aload_n 22 1 dX3_put_21 rfl rfl ?_
          refine g_get 25 (nI (n + 1)) dX3_put_22 rfl fX3_15 rfl (by decide) rfl wr_eq ?_
          refine g_iload_n 26 2 dX3_put_25 rfl rfl ?_
          refine g_iload_n 27 0 dX3_put_26 rfl rfl ?_
          refine g_ishr 28 (x >>> (nI 16 &&& 31)) dX3_put_27 rfl rfl ?_
          refine g_i2b 29 ((x >>> (nI 16 &&& 31)).toInt8.toInt32) dX3_put_28 rfl rfl ?_
          refine g_bast 30 dX3_put_29 rfl rfl (by decide) rfl (by decide) (by omega) ?_
          refine g_aload_n 31 1 dX3_put_30 rfl rfl ?_
          refine g_dup 32 dX3_put_31 rfl rfl ?_
          refine g_get 35 (nI (n + 1)) dX3_put_32 rfl fX3_15 rfl (by decide) rfl ((wr_ne (by omega)).trans wr_eq) ?_
          refine g_iconst 36 (nI 1) dX3_put_35 rfl rfl ?_
          refine g_iadd 37 (nI ((n + 1) + 1)) dX3_put_36 rfl (nI_add (n + 1) 1) ?_
          refine g_put 40 dX3_put_37 rfl fX3_15 pX3_1 rfl (by decide) rfl ?_
          refine g_iinc 43 (nI 8) [(2, .int (nI 8)), (0, .ref (g 13 0)), (1, .int x)] dX3_put_40 rfl 0 rfl rfl (by decide) rfl ?_
          refine g_goto 3 dX3_put_43 rfl ?_
          refine g_iload_n 4 0 dX3_put_3 rfl rfl ?_
          refine g_if_lt 46 7 dX3_put_4 rfl rfl (fun c4 => ?_) (fun c4 => ?_)
          · exact absurd c4 (by decide)
          · refine g_aload_n 8 1 dX3_put_7 rfl rfl ?_
            refine g_get 11 (nI ((n + 1) + 1)) dX3_put_8 rfl fX3_15 rfl (by decide) rfl wr_eq ?_
            refine g_sipush 14 (nI 640) dX3_put_11 rfl rfl ?_
            refine g_icmpN_ge 46 17 dX3_put_14 rfl rfl (by omega) (by omega) (fun c14 => ?_) (fun c14 => ?_)
            · exact absurd c14 (by omega)
            · refine g_aload_n 18 1 dX3_put_17 rfl rfl ?_
              refine g_geta 21 1 dX3_put_18 rfl fX3_9 rfl (by decide) rfl rfl ?_
              refine g_aload_n 22 1 dX3_put_21 rfl rfl ?_
              refine g_get 25 (nI ((n + 1) + 1)) dX3_put_22 rfl fX3_15 rfl (by decide) rfl wr_eq ?_
              refine g_iload_n 26 2 dX3_put_25 rfl rfl ?_
              refine g_iload_n 27 0 dX3_put_26 rfl rfl ?_
              refine g_ishr 28 (x >>> (nI 8 &&& 31)) dX3_put_27 rfl rfl ?_
              refine g_i2b 29 ((x >>> (nI 8 &&& 31)).toInt8.toInt32) dX3_put_28 rfl rfl ?_
              refine g_bast 30 dX3_put_29 rfl rfl (by decide) rfl (by decide) (by omega) ?_
              refine g_aload_n 31 1 dX3_put_30 rfl rfl ?_
              refine g_dup 32 dX3_put_31 rfl rfl ?_
              refine g_get 35 (nI ((n + 1) + 1)) dX3_put_32 rfl fX3_15 rfl (by decide) rfl ((wr_ne (by omega)).trans wr_eq) ?_
              refine g_iconst 36 (nI 1) dX3_put_35 rfl rfl ?_
              refine g_iadd 37 (nI (((n + 1) + 1) + 1)) dX3_put_36 rfl (nI_add ((n + 1) + 1) 1) ?_
              refine g_put 40 dX3_put_37 rfl fX3_15 pX3_1 rfl (by decide) rfl ?_
              refine g_iinc 43 (nI 0) [(2, .int (nI 0)), (0, .ref (g 13 0)), (1, .int x)] dX3_put_40 rfl 0 rfl rfl (by decide) rfl ?_
              refine g_goto 3 dX3_put_43 rfl ?_
              refine g_iload_n 4 0 dX3_put_3 rfl rfl ?_
              refine g_if_lt 46 7 dX3_put_4 rfl rfl (fun c4 => ?_) (fun c4 => ?_)
              · exact absurd c4 (by decide)
              · refine g_aload_n 8 1 dX3_put_7 rfl rfl ?_
                refine g_get 11 (nI (((n + 1) + 1) + 1)) dX3_put_8 rfl fX3_15 rfl (by decide) rfl wr_eq ?_
                refine g_sipush 14 (nI 640) dX3_put_11 rfl rfl ?_
                refine g_icmpN_ge 46 17 dX3_put_14 rfl rfl (by omega) (by omega) (fun c14 => ?_) (fun c14 => ?_)
                · exact absurd c14 (by omega)
                · refine g_aload_n 18 1 dX3_put_17 rfl rfl ?_
                  refine g_geta 21 1 dX3_put_18 rfl fX3_9 rfl (by decide) rfl rfl ?_
                  refine g_aload_n 22 1 dX3_put_21 rfl rfl ?_
                  refine g_get 25 (nI (((n + 1) + 1) + 1)) dX3_put_22 rfl fX3_15 rfl (by decide) rfl wr_eq ?_
                  refine g_iload_n 26 2 dX3_put_25 rfl rfl ?_
                  refine g_iload_n 27 0 dX3_put_26 rfl rfl ?_
                  refine g_ishr 28 (x >>> (nI 0 &&& 31)) dX3_put_27 rfl rfl ?_
                  refine g_i2b 29 ((x >>> (nI 0 &&& 31)).toInt8.toInt32) dX3_put_28 rfl rfl ?_
                  refine g_bast 30 dX3_put_29 rfl rfl (by decide) rfl (by decide) (by omega) ?_
                  refine g_aload_n 31 1 dX3_put_30 rfl rfl ?_
                  refine g_dup 32 dX3_put_31 rfl rfl ?_
                  refine g_get 35 (nI (((n + 1) + 1) + 1)) dX3_put_32 rfl fX3_15 rfl (by decide) rfl ((wr_ne (by omega)).trans wr_eq) ?_
                  refine g_iconst 36 (nI 1) dX3_put_35 rfl rfl ?_
                  refine g_iadd 37 (nI ((((n + 1) + 1) + 1) + 1)) dX3_put_36 rfl (nI_add (((n + 1) + 1) + 1) 1) ?_
                  refine g_put 40 dX3_put_37 rfl fX3_15 pX3_1 rfl (by decide) rfl ?_
                  refine g_iinc 43 ((-8)) [(2, .int (-8)), (0, .ref (g 13 0)), (1, .int x)] dX3_put_40 rfl 0 rfl rfl (by decide) rfl ?_
                  refine g_goto 3 dX3_put_43 rfl ?_
                  refine g_iload_n 4 0 dX3_put_3 rfl rfl ?_
                  refine g_if_lt 46 7 dX3_put_4 rfl rfl (fun c4 => ?_) (fun c4 => ?_)
                  · refine g_vret rfl dX3_put_46 ⟨⟨wr_eq, fun i hi => ?_⟩, ?_⟩
                    · rcases (show i < n ∨ i = n ∨ i = n + 1 ∨ i = n + 1 + 1 ∨ i = n + 1 + 1 + 1 by omega) with z | rfl | rfl | rfl | rfl
                      · rw [t4_lo z, wr_ne (by omega), wr_ne (by omega), wr_ne (by omega), wr_ne (by omega), wr_ne (by omega), wr_ne (by omega), wr_ne (by omega), wr_ne (by omega)]; exact hT.2 i z
                      · rw [t4_0, wr_ne (by omega), wr_ne (by omega), wr_ne (by omega), wr_ne (by omega), wr_ne (by omega), wr_ne (by omega), wr_ne (by omega), wr_eq, bt_cls x 24 (by omega)]
                      · rw [t4_1, wr_ne (by omega), wr_ne (by omega), wr_ne (by omega), wr_ne (by omega), wr_ne (by omega), wr_eq, bt_cls x 16 (by omega)]
                      · rw [t4_2, wr_ne (by omega), wr_ne (by omega), wr_ne (by omega), wr_eq, bt_cls x 8 (by omega)]
                      · rw [t4_3, wr_ne (by omega), wr_eq, bt_cls x 0 (by omega)]
                    · exact ((((((Fo.wr.tr Fo.wr).tr Fo.wr).tr Fo.wr).tr Fo.wr).tr Fo.wr).tr Fo.wr).tr Fo.wr
                  · exact absurd c4 (by decide)

set_option maxHeartbeats 4000000 in
set_option maxRecDepth 100000 in
theorem c_X7_lays {l : Launch} {D : va_G} {g : Nat → Nat → Nat} {ca : Nat → ClassId} {M : Mm} {t : Nat → Nat} {n : Nat} (hT : TR M t n) (hn : n + 4 ≤ 640) (x : Int32) : Ct l D g ca md_X7_lays [.ref (g 18 0), .int x] M (Rv (fun M1 => TR M1 (t4 t n x) (n + 1 + 1 + 1 + 1) ∧ FTp M M1)) := by
  refine Ct.of (by decide) rfl (Nat.le_of_ble_eq_true rfl) ?_
  show G l D g ca md_X7_lays 0 [(0, .ref (g 18 0)), (1, .int x)] [] M _
  refine g_bipush 2 (nI 24) dX7_lays_0 rfl rfl ?_
  refine g_istore_n 3 [(2, .int (nI 24)), (0, .ref (g 18 0)), (1, .int x)] dX7_lays_2 rfl (by decide) rfl ?_
  refine g_iload_n 4 0 dX7_lays_3 rfl rfl ?_
  refine g_if_lt 39 7 dX7_lays_4 rfl rfl (fun c4 => ?_) (fun c4 => ?_)
  · exact absurd c4 (by decide)
  · refine g_aload_n 8 1 dX7_lays_7 rfl rfl ?_
    refine g_geta 11 2 dX7_lays_8 rfl fX7_7 rfl (by decide) rfl rfl ?_
    refine g_aload_n 12 1 dX7_lays_11 rfl rfl ?_
    refine g_get 15 (nI n) dX7_lays_12 rfl fX7_11 rfl (by decide) rfl hT.1 ?_
    refine g_iload_n 16 2 dX7_lays_15 rfl rfl ?_
    refine g_iload_n 17 0 dX7_lays_16 rfl rfl ?_
    refine g_iushr 18 ((x.toUInt32 >>> ((nI 24).toUInt32 &&& Int32.toUInt32 31)).toInt32) dX7_lays_17 rfl rfl ?_
    refine g_sipush 21 (nI 255) dX7_lays_18 rfl rfl ?_
    refine g_iand 22 (((x.toUInt32 >>> ((nI 24).toUInt32 &&& Int32.toUInt32 31)).toInt32) &&& (nI 255)) dX7_lays_21 rfl rfl ?_
    refine g_iast 23 dX7_lays_22 rfl rfl (by decide) rfl (by decide) (by omega) ?_
    refine g_aload_n 24 1 dX7_lays_23 rfl rfl ?_
    refine g_dup 25 dX7_lays_24 rfl rfl ?_
    refine g_get 28 (nI n) dX7_lays_25 rfl fX7_11 rfl (by decide) rfl ((wr_ne (by omega)).trans hT.1) ?_
    refine g_iconst 29 (nI 1) dX7_lays_28 rfl rfl ?_
    refine g_iadd 30 (nI (n + 1)) dX7_lays_29 rfl (nI_add n 1) ?_
    refine g_put 33 dX7_lays_30 rfl fX7_11 pX7_2 rfl (by decide) rfl ?_
    refine g_iinc 36 (nI 16) [(2, .int (nI 16)), (0, .ref (g 18 0)), (1, .int x)] dX7_lays_33 rfl 0 rfl rfl (by decide) rfl ?_
    refine g_goto 3 dX7_lays_36 rfl ?_
    refine g_iload_n 4 0 dX7_lays_3 rfl rfl ?_
    refine g_if_lt 39 7 dX7_lays_4 rfl rfl (fun c4 => ?_) (fun c4 => ?_)
    · exact absurd c4 (by decide)
    · refine g_aload_n 8 1 dX7_lays_7 rfl rfl ?_
      refine g_geta 11 2 dX7_lays_8 rfl fX7_7 rfl (by decide) rfl rfl ?_
      refine g_aload_n 12 1 dX7_lays_11 rfl rfl ?_
      refine g_get 15 (nI (n + 1)) dX7_lays_12 rfl fX7_11 rfl (by decide) rfl wr_eq ?_
      refine g_iload_n 16 2 dX7_lays_15 rfl rfl ?_
      refine g_iload_n 17 0 dX7_lays_16 rfl rfl ?_
      refine g_iushr 18 ((x.toUInt32 >>> ((nI 16).toUInt32 &&& Int32.toUInt32 31)).toInt32) dX7_lays_17 rfl rfl ?_
      refine g_sipush 21 (nI 255) dX7_lays_18 rfl rfl ?_
      refine g_iand 22 (((x.toUInt32 >>> ((nI 16).toUInt32 &&& Int32.toUInt32 31)).toInt32) &&& (nI 255)) dX7_lays_21 rfl rfl ?_
      refine g_iast 23 dX7_lays_22 rfl rfl (by decide) rfl (by decide) (by omega) ?_
      refine g_aload_n 24 1 dX7_lays_23 rfl rfl ?_
      refine g_dup 25 dX7_lays_24 rfl rfl ?_
      refine g_get 28 (nI (n + 1)) dX7_lays_25 rfl fX7_11 rfl (by decide) rfl ((wr_ne (by omega)).trans wr_eq) ?_
      refine g_iconst 29 (nI 1) dX7_lays_28 rfl rfl ?_
      refine g_iadd 30 (nI ((n + 1) + 1)) dX7_lays_29 rfl (nI_add (n + 1) 1) ?_
      refine g_put 33 dX7_lays_30 rfl fX7_11 pX7_2 rfl (by decide) rfl ?_
      refine g_iinc 36 (nI 8) [(2, .int (nI 8)), (0, .ref (g 18 0)), (1, .int x)] dX7_lays_33 rfl 0 rfl rfl (by decide) rfl ?_
      refine g_goto 3 dX7_lays_36 rfl ?_
      refine g_iload_n 4 0 dX7_lays_3 rfl rfl ?_
      refine g_if_lt 39 7 dX7_lays_4 rfl rfl (fun c4 => ?_) (fun c4 => ?_)
      · exact absurd c4 (by decide)
      · refine g_aload_n 8 1 dX7_lays_7 rfl rfl ?_
        refine g_geta 11 2 dX7_lays_8 rfl fX7_7 rfl (by decide) rfl rfl ?_
        refine g_aload_n 12 1 dX7_lays_11 rfl rfl ?_
        refine g_get 15 (nI ((n + 1) + 1)) dX7_lays_12 rfl fX7_11 rfl (by decide) rfl wr_eq ?_
        refine g_iload_n 16 2 dX7_lays_15 rfl rfl ?_
        refine g_iload_n 17 0 dX7_lays_16 rfl rfl ?_
        refine g_iushr 18 ((x.toUInt32 >>> ((nI 8).toUInt32 &&& Int32.toUInt32 31)).toInt32) dX7_lays_17 rfl rfl ?_
        refine g_sipush 21 (nI 255) dX7_lays_18 rfl rfl ?_
        refine g_iand 22 (((x.toUInt32 >>> ((nI 8).toUInt32 &&& Int32.toUInt32 31)).toInt32) &&& (nI 255)) dX7_lays_21 rfl rfl ?_
        refine g_iast 23 dX7_lays_22 rfl rfl (by decide) rfl (by decide) (by omega) ?_
        refine g_aload_n 24 1 dX7_lays_23 rfl rfl ?_
        refine g_dup 25 dX7_lays_24 rfl rfl ?_
        refine g_get 28 (nI ((n + 1) + 1)) dX7_lays_25 rfl fX7_11 rfl (by decide) rfl ((wr_ne (by omega)).trans wr_eq) ?_
        refine g_iconst 29 (nI 1) dX7_lays_28 rfl rfl ?_
        refine g_iadd 30 (nI (((n + 1) + 1) + 1)) dX7_lays_29 rfl (nI_add ((n + 1) + 1) 1) ?_
        refine g_put 33 dX7_lays_30 rfl fX7_11 pX7_2 rfl (by decide) rfl ?_
        refine g_iinc 36 (nI 0) [(2, .int (nI 0)), (0, .ref (g 18 0)), (1, .int x)] dX7_lays_33 rfl 0 rfl rfl (by decide) rfl ?_
        refine g_goto 3 dX7_lays_36 rfl ?_
        refine g_iload_n 4 0 dX7_lays_3 rfl rfl ?_
        refine g_if_lt 39 7 dX7_lays_4 rfl rfl (fun c4 => ?_) (fun c4 => ?_)
        · exact absurd c4 (by decide)
        · refine g_aload_n 8 1 dX7_lays_7 rfl rfl ?_
          refine g_geta 11 2 dX7_lays_8 rfl fX7_7 rfl (by decide) rfl rfl ?_
          refine g_aload_n 12 1 dX7_lays_11 rfl rfl ?_
          refine g_get 15 (nI (((n + 1) + 1) + 1)) dX7_lays_12 rfl fX7_11 rfl (by decide) rfl wr_eq ?_
          refine g_iload_n 16 2 dX7_lays_15 rfl rfl ?_
          refine g_iload_n 17 0 dX7_lays_16 rfl rfl ?_
          refine g_iushr 18 ((x.toUInt32 >>> ((nI 0).toUInt32 &&& Int32.toUInt32 31)).toInt32) dX7_lays_17 rfl rfl ?_
          refine g_sipush 21 (nI 255) dX7_lays_18 rfl rfl ?_
          refine g_iand 22 (((x.toUInt32 >>> ((nI 0).toUInt32 &&& Int32.toUInt32 31)).toInt32) &&& (nI 255)) dX7_lays_21 rfl rfl ?_
          refine g_iast 23 dX7_lays_22 rfl rfl (by decide) rfl (by decide) (by omega) ?_
          refine g_aload_n 24 1 dX7_lays_23 rfl rfl ?_
          refine g_dup 25 dX7_lays_24 rfl rfl ?_
          refine g_get 28 (nI (((n + 1) + 1) + 1)) dX7_lays_25 rfl fX7_11 rfl (by decide) rfl ((wr_ne (by omega)).trans wr_eq) ?_
          refine g_iconst 29 (nI 1) dX7_lays_28 rfl rfl ?_
          refine g_iadd 30 (nI ((((n + 1) + 1) + 1) + 1)) dX7_lays_29 rfl (nI_add (((n + 1) + 1) + 1) 1) ?_
          refine g_put 33 dX7_lays_30 rfl fX7_11 pX7_2 rfl (by decide) rfl ?_
          refine g_iinc 36 ((-8)) [(2, .int (-8)), (0, .ref (g 18 0)), (1, .int x)] dX7_lays_33 rfl 0 rfl rfl (by decide) rfl ?_
          refine g_goto 3 dX7_lays_36 rfl ?_
          refine g_iload_n 4 0 dX7_lays_3 rfl rfl ?_
          refine g_if_lt 39 7 dX7_lays_4 rfl rfl (fun c4 => ?_) (fun c4 => ?_)
          · refine g_vret rfl dX7_lays_39 ⟨⟨wr_eq, fun i hi => ?_⟩, ?_⟩
            · rcases (show i < n ∨ i = n ∨ i = n + 1 ∨ i = n + 1 + 1 ∨ i = n + 1 + 1 + 1 by omega) with z | rfl | rfl | rfl | rfl
              · rw [t4_lo z, wr_ne (by omega), wr_ne (by omega), wr_ne (by omega), wr_ne (by omega), wr_ne (by omega), wr_ne (by omega), wr_ne (by omega), wr_ne (by omega)]; exact hT.2 i z
              · rw [t4_0, wr_ne (by omega), wr_ne (by omega), wr_ne (by omega), wr_ne (by omega), wr_ne (by omega), wr_ne (by omega), wr_ne (by omega), wr_eq, bt_ref x 24 (by omega)]
              · rw [t4_1, wr_ne (by omega), wr_ne (by omega), wr_ne (by omega), wr_ne (by omega), wr_ne (by omega), wr_eq, bt_ref x 16 (by omega)]
              · rw [t4_2, wr_ne (by omega), wr_ne (by omega), wr_ne (by omega), wr_eq, bt_ref x 8 (by omega)]
              · rw [t4_3, wr_ne (by omega), wr_eq, bt_ref x 0 (by omega)]
            · exact (((((((FTp.wr (by omega)).tr (FTp.wr (by omega))).tr (FTp.wr (by omega))).tr (FTp.wr (by omega))).tr (FTp.wr (by omega))).tr (FTp.wr (by omega))).tr (FTp.wr (by omega))).tr (FTp.wr (by omega))
          · exact absurd c4 (by decide)

set_option maxHeartbeats 4000000 in
set_option maxRecDepth 100000 in
theorem c_X6_feed {l : Launch} {D : va_G} {g : Nat → Nat → Nat} {ca : Nat → ClassId} {M : Mm} {t : Nat → Nat} {n : Nat} (hT : TC M t n) (hn : n ≤ 640) (a b c d e : Int32) : Ct l D g ca md_X6_feed [.ref (g 12 0), .int a, .int b, .int c, .int d, .int e] M (Ri (fun r M1 => r = (S_fd t n a b c d e).1 ∧ TC M1 (S_fd t n a b c d e).2.1 (S_fd t n a b c d e).2.2 ∧ Fo 13 M M1)) := by
  refine Ct.of (by decide) rfl (Nat.le_of_ble_eq_true rfl) ?_
  show G l D g ca md_X6_feed 0 [(0, .ref (g 12 0)), (1, .int a), (2, .int b), (3, .int c), (4, .int d), (5, .int e)] [] M _
  refine g_aload_n 1 0 dX6_feed_0 rfl rfl ?_
  refine g_geto 4 dX6_feed_1 rfl fX6_10 rfl (by decide) rfl ?_
  refine g_get 7 (nI n) dX6_feed_4 rfl fX6_58 rfl (by decide) rfl hT.1 ?_
  refine g_bipush 9 (nI 20) dX6_feed_7 rfl rfl ?_
  refine g_iadd 10 (nI (n + 20)) dX6_feed_9 rfl (nI_add n 20) ?_
  refine g_sipush 13 (nI 640) dX6_feed_10 rfl rfl ?_
  refine g_icmpN_le 18 16 dX6_feed_13 rfl rfl (by omega) (by omega) (fun c13 => ?_) (fun c13 => ?_)
  · refine g_aload_n 19 0 dX6_feed_18 rfl rfl ?_
    refine g_geto 22 dX6_feed_19 rfl fX6_10 rfl (by decide) rfl ?_
    refine g_iload_n 23 1 dX6_feed_22 rfl rfl ?_
    refine g_callVv 26 md_X3_put [.int a] [] dX6_feed_23 rfl e_X6_feed_61 rfl (by decide) rfl rfl (Nat.le_of_ble_eq_true rfl) (c_X3_put hT (by omega) a) (fun N1 h23 => ?_)
    obtain ⟨hT1, hF1⟩ := h23
    refine g_aload_n 27 0 dX6_feed_26 rfl rfl ?_
    refine g_geto 30 dX6_feed_27 rfl fX6_10 rfl (by decide) rfl ?_
    refine g_iload_n 31 2 dX6_feed_30 rfl rfl ?_
    refine g_callVv 34 md_X3_put [.int b] [] dX6_feed_31 rfl e_X6_feed_61 rfl (by decide) rfl rfl (Nat.le_of_ble_eq_true rfl) (c_X3_put hT1 (by omega) b) (fun N2 h31 => ?_)
    obtain ⟨hT2, hF2⟩ := h31
    refine g_aload_n 35 0 dX6_feed_34 rfl rfl ?_
    refine g_geto 38 dX6_feed_35 rfl fX6_10 rfl (by decide) rfl ?_
    refine g_iload_n 39 3 dX6_feed_38 rfl rfl ?_
    refine g_callVv 42 md_X3_put [.int c] [] dX6_feed_39 rfl e_X6_feed_61 rfl (by decide) rfl rfl (Nat.le_of_ble_eq_true rfl) (c_X3_put hT2 (by omega) c) (fun N3 h39 => ?_)
    obtain ⟨hT3, hF3⟩ := h39
    refine g_aload_n 43 0 dX6_feed_42 rfl rfl ?_
    refine g_geto 46 dX6_feed_43 rfl fX6_10 rfl (by decide) rfl ?_
    refine g_iload 48 4 dX6_feed_46 rfl rfl ?_
    refine g_callVv 51 md_X3_put [.int d] [] dX6_feed_48 rfl e_X6_feed_61 rfl (by decide) rfl rfl (Nat.le_of_ble_eq_true rfl) (c_X3_put hT3 (by omega) d) (fun N4 h48 => ?_)
    obtain ⟨hT4, hF4⟩ := h48
    refine g_aload_n 52 0 dX6_feed_51 rfl rfl ?_
    refine g_geto 55 dX6_feed_52 rfl fX6_10 rfl (by decide) rfl ?_
    refine g_iload 57 5 dX6_feed_55 rfl rfl ?_
    refine g_callVv 60 md_X3_put [.int e] [] dX6_feed_57 rfl e_X6_feed_61 rfl (by decide) rfl rfl (Nat.le_of_ble_eq_true rfl) (c_X3_put hT4 (by omega) e) (fun N5 h57 => ?_)
    obtain ⟨hT5, hF5⟩ := h57
    refine g_aload_n 61 0 dX6_feed_60 rfl rfl ?_
    refine g_geto 64 dX6_feed_61 rfl fX6_10 rfl (by decide) rfl ?_
    refine g_get 67 (nI (n + 20)) dX6_feed_64 rfl fX6_58 rfl (by decide) rfl hT5.1 ?_
    exact g_iret rfl dX6_feed_67 (by rw [S_fd_at (by omega)]; exact ⟨rfl, hT5, (((hF1.tr hF2).tr hF3).tr hF4).tr hF5⟩)
  · refine g_iconst 17 ((-1)) dX6_feed_16 rfl rfl ?_
    exact g_iret rfl dX6_feed_17 (by rw [S_fd_no (by omega)]; exact ⟨rfl, hT, Fo.rf⟩)

set_option maxHeartbeats 4000000 in
set_option maxRecDepth 100000 in
theorem c_X7_feed {l : Launch} {D : va_G} {g : Nat → Nat → Nat} {ca : Nat → ClassId} {M : Mm} {t : Nat → Nat} {n : Nat} (hT : TR M t n) (hn : n ≤ 640) (a b c d e : Int32) : Ct l D g ca md_X7_feed [.ref (g 18 0), .int a, .int b, .int c, .int d, .int e] M (Ri (fun r M1 => r = (S_fd t n a b c d e).1 ∧ TR M1 (S_fd t n a b c d e).2.1 (S_fd t n a b c d e).2.2 ∧ FTp M M1)) := by
  refine Ct.of (by decide) rfl (Nat.le_of_ble_eq_true rfl) ?_
  have hT' : TR (wr M 18 0 0 (nI 0)) t n := ⟨(wr_ne (by omega)).trans hT.1, fun i hi => (wr_ne (by omega)).trans (hT.2 i hi)⟩
  show G l D g ca md_X7_feed 0 [(0, .ref (g 18 0)), (1, .int a), (2, .int b), (3, .int c), (4, .int d), (5, .int e)] [] M _
  refine g_aload_n 1 0 dX7_feed_0 rfl rfl ?_
  refine g_iconst 2 (nI 0) dX7_feed_1 rfl rfl ?_
  refine g_put 5 dX7_feed_2 rfl fX7_1 pX7_0 rfl (by decide) rfl ?_
  refine g_aload_n 6 0 dX7_feed_5 rfl rfl ?_
  refine g_get 9 (nI n) dX7_feed_6 rfl fX7_11 rfl (by decide) rfl ((wr_ne (by omega)).trans hT.1) ?_
  refine g_bipush 11 (nI 20) dX7_feed_9 rfl rfl ?_
  refine g_iadd 12 (nI (n + 20)) dX7_feed_11 rfl (nI_add n 20) ?_
  refine g_sipush 15 (nI 640) dX7_feed_12 rfl rfl ?_
  refine g_icmpN_le 20 18 dX7_feed_15 rfl rfl (by omega) (by omega) (fun c15 => ?_) (fun c15 => ?_)
  · refine g_aload_n 21 0 dX7_feed_20 rfl rfl ?_
    refine g_iload_n 22 1 dX7_feed_21 rfl rfl ?_
    refine g_callVv 25 md_X7_lays [.int a] [] dX7_feed_22 rfl e_X7_feed_14 rfl (by decide) rfl rfl (Nat.le_of_ble_eq_true rfl) (c_X7_lays hT' (by omega) a) (fun N1 h22 => ?_)
    obtain ⟨hT1, hF1⟩ := h22
    refine g_aload_n 26 0 dX7_feed_25 rfl rfl ?_
    refine g_iload_n 27 2 dX7_feed_26 rfl rfl ?_
    refine g_callVv 30 md_X7_lays [.int b] [] dX7_feed_27 rfl e_X7_feed_14 rfl (by decide) rfl rfl (Nat.le_of_ble_eq_true rfl) (c_X7_lays hT1 (by omega) b) (fun N2 h27 => ?_)
    obtain ⟨hT2, hF2⟩ := h27
    refine g_aload_n 31 0 dX7_feed_30 rfl rfl ?_
    refine g_iload_n 32 3 dX7_feed_31 rfl rfl ?_
    refine g_callVv 35 md_X7_lays [.int c] [] dX7_feed_32 rfl e_X7_feed_14 rfl (by decide) rfl rfl (Nat.le_of_ble_eq_true rfl) (c_X7_lays hT2 (by omega) c) (fun N3 h32 => ?_)
    obtain ⟨hT3, hF3⟩ := h32
    refine g_aload_n 36 0 dX7_feed_35 rfl rfl ?_
    refine g_iload 38 4 dX7_feed_36 rfl rfl ?_
    refine g_callVv 41 md_X7_lays [.int d] [] dX7_feed_38 rfl e_X7_feed_14 rfl (by decide) rfl rfl (Nat.le_of_ble_eq_true rfl) (c_X7_lays hT3 (by omega) d) (fun N4 h38 => ?_)
    obtain ⟨hT4, hF4⟩ := h38
    refine g_aload_n 42 0 dX7_feed_41 rfl rfl ?_
    refine g_iload 44 5 dX7_feed_42 rfl rfl ?_
    refine g_callVv 47 md_X7_lays [.int e] [] dX7_feed_44 rfl e_X7_feed_14 rfl (by decide) rfl rfl (Nat.le_of_ble_eq_true rfl) (c_X7_lays hT4 (by omega) e) (fun N5 h44 => ?_)
    obtain ⟨hT5, hF5⟩ := h44
    refine g_aload_n 48 0 dX7_feed_47 rfl rfl ?_
    refine g_get 51 (nI (n + 20)) dX7_feed_48 rfl fX7_11 rfl (by decide) rfl hT5.1 ?_
    exact g_iret rfl dX7_feed_51 (by rw [S_fd_at (by omega)]; exact ⟨rfl, hT5, (((((FTp.wr (by omega)).tr hF1).tr hF2).tr hF3).tr hF4).tr hF5⟩)
  · refine g_iconst 19 ((-1)) dX7_feed_18 rfl rfl ?_
    exact g_iret rfl dX7_feed_19 (by rw [S_fd_no (by omega)]; exact ⟨rfl, hT', FTp.wr (by omega)⟩)

set_option maxHeartbeats 4000000 in
set_option maxRecDepth 100000 in
theorem c_X6_end {l : Launch} {D : va_G} {g : Nat → Nat → Nat} {ca : Nat → ClassId} {M : Mm} {t : Nat → Nat} {n : Nat} (hT : TC M t n) (hn : n ≤ 640) (x : Int32) : Ct l D g ca md_X6_end [.ref (g 12 0), .int x] M (Ri (fun r M1 => r = bi (S_en n x).1 ∧ TC M1 t (S_en n x).2 ∧ Fo 13 M M1)) := by
  refine Ct.of (by decide) rfl (Nat.le_of_ble_eq_true rfl) ?_
  show G l D g ca md_X6_end 0 [(0, .ref (g 12 0)), (1, .int x)] [] M _
  refine g_iload_n 1 1 dX6_end_0 rfl rfl ?_
  refine g_if_lt 15 4 dX6_end_1 rfl rfl (fun c1 => ?_) (fun c1 => ?_)
  · refine g_iconst 16 (nI 0) dX6_end_15 rfl rfl ?_
    exact g_zret rfl dX6_end_16 rfl (by rw [S_en_no (decide_eq_false (fun z => by first | (have h1 := c1; rw [fa_lt] at h1; have e0 : (0 : Int32).toInt = 0 := rfl; rw [e0] at h1; omega) | (have h2 := c12; rw [fa_le, nI_toInt (by omega)] at h2; omega)))]; exact ⟨rfl, hT, Fo.rf⟩)
  · refine g_iload_n 5 1 dX6_end_4 rfl rfl ?_
    refine g_aload_n 6 0 dX6_end_5 rfl rfl ?_
    refine g_geto 9 dX6_end_6 rfl fX6_10 rfl (by decide) rfl ?_
    refine g_get 12 (nI n) dX6_end_9 rfl fX6_58 rfl (by decide) rfl hT.1 ?_
    refine g_icmp_le 17 15 dX6_end_12 rfl rfl (fun c12 => ?_) (fun c12 => ?_)
    · have hin : inr x (n + 1) = true := decide_eq_true (by have h1 := c1; have h2 := c12; rw [fa_lt] at h1; rw [fa_le, nI_toInt (by omega)] at h2; have e0 : (0 : Int32).toInt = 0 := rfl; rw [e0] at h1; omega)
      obtain ⟨j, hj, rfl⟩ := inr_of hin
      refine g_aload_n 18 0 dX6_end_17 rfl rfl ?_
      refine g_geto 21 dX6_end_18 rfl fX6_10 rfl (by decide) rfl ?_
      refine g_iload_n 22 1 dX6_end_21 rfl rfl ?_
      refine g_put 25 dX6_end_22 rfl fX6_58 pX3_1 rfl (by decide) rfl ?_
      refine g_iconst 26 (nI 1) dX6_end_25 rfl rfl ?_
      exact g_zret rfl dX6_end_26 rfl (by rw [S_en_at (by omega) hn]; exact ⟨rfl, ⟨wr_eq, fun i hi => (wr_ne (by omega)).trans (hT.2 i (by omega))⟩, Fo.wr⟩)
    · refine g_iconst 16 (nI 0) dX6_end_15 rfl rfl ?_
      exact g_zret rfl dX6_end_16 rfl (by rw [S_en_no (decide_eq_false (fun z => by first | (have h1 := c1; rw [fa_lt] at h1; have e0 : (0 : Int32).toInt = 0 := rfl; rw [e0] at h1; omega) | (have h2 := c12; rw [fa_le, nI_toInt (by omega)] at h2; omega)))]; exact ⟨rfl, hT, Fo.rf⟩)

set_option maxHeartbeats 4000000 in
set_option maxRecDepth 100000 in
theorem c_X7_end {l : Launch} {D : va_G} {g : Nat → Nat → Nat} {ca : Nat → ClassId} {M : Mm} {t : Nat → Nat} {n : Nat} (hT : TR M t n) (hn : n ≤ 640) (x : Int32) : Ct l D g ca md_X7_end [.ref (g 18 0), .int x] M (Ri (fun r M1 => r = bi (S_en n x).1 ∧ TR M1 t (S_en n x).2 ∧ FTp M M1)) := by
  refine Ct.of (by decide) rfl (Nat.le_of_ble_eq_true rfl) ?_
  show G l D g ca md_X7_end 0 [(0, .ref (g 18 0)), (1, .int x)] [] M _
  refine g_aload_n 1 0 dX7_end_0 rfl rfl ?_
  refine g_iconst 2 (nI 0) dX7_end_1 rfl rfl ?_
  refine g_put 5 dX7_end_2 rfl fX7_1 pX7_0 rfl (by decide) rfl ?_
  refine g_iload_n 6 1 dX7_end_5 rfl rfl ?_
  refine g_if_lt 17 9 dX7_end_6 rfl rfl (fun c6 => ?_) (fun c6 => ?_)
  · refine g_iconst 18 (nI 0) dX7_end_17 rfl rfl ?_
    exact g_zret rfl dX7_end_18 rfl (by rw [S_en_no (decide_eq_false (fun z => by first | (have h1 := c6; rw [fa_lt] at h1; have e0 : (0 : Int32).toInt = 0 := rfl; rw [e0] at h1; omega) | (have h2 := c14; rw [fa_le, nI_toInt (by omega)] at h2; omega)))]; exact ⟨rfl, ⟨(wr_ne (by omega)).trans hT.1, fun i hi => (wr_ne (by omega)).trans (hT.2 i hi)⟩, FTp.wr (by omega)⟩)
  · refine g_iload_n 10 1 dX7_end_9 rfl rfl ?_
    refine g_aload_n 11 0 dX7_end_10 rfl rfl ?_
    refine g_get 14 (nI n) dX7_end_11 rfl fX7_11 rfl (by decide) rfl ((wr_ne (by omega)).trans hT.1) ?_
    refine g_icmp_le 19 17 dX7_end_14 rfl rfl (fun c14 => ?_) (fun c14 => ?_)
    · have hin : inr x (n + 1) = true := decide_eq_true (by have h1 := c6; have h2 := c14; rw [fa_lt] at h1; rw [fa_le, nI_toInt (by omega)] at h2; have e0 : (0 : Int32).toInt = 0 := rfl; rw [e0] at h1; omega)
      obtain ⟨j, hj, rfl⟩ := inr_of hin
      refine g_aload_n 20 0 dX7_end_19 rfl rfl ?_
      refine g_iload_n 21 1 dX7_end_20 rfl rfl ?_
      refine g_put 24 dX7_end_21 rfl fX7_11 pX7_2 rfl (by decide) rfl ?_
      refine g_iconst 25 (nI 1) dX7_end_24 rfl rfl ?_
      exact g_zret rfl dX7_end_25 rfl (by rw [S_en_at (by omega) hn]; exact ⟨rfl, ⟨wr_eq, fun i hi => ((wr_ne (by omega)).trans (wr_ne (by omega))).trans (hT.2 i (by omega))⟩, (FTp.wr (by omega)).tr (FTp.wr (by omega))⟩)
    · refine g_iconst 18 (nI 0) dX7_end_17 rfl rfl ?_
      exact g_zret rfl dX7_end_18 rfl (by rw [S_en_no (decide_eq_false (fun z => by first | (have h1 := c6; rw [fa_lt] at h1; have e0 : (0 : Int32).toInt = 0 := rfl; rw [e0] at h1; omega) | (have h2 := c14; rw [fa_le, nI_toInt (by omega)] at h2; omega)))]; exact ⟨rfl, ⟨(wr_ne (by omega)).trans hT.1, fun i hi => (wr_ne (by omega)).trans (hT.2 i hi)⟩, FTp.wr (by omega)⟩)

set_option maxHeartbeats 4000000 in
set_option maxRecDepth 100000 in
theorem c_X6_fault {l : Launch} {D : va_G} {g : Nat → Nat → Nat} {ca : Nat → ClassId} {M : Mm}  : Ct l D g ca md_X6_fault [.ref (g 12 0)] M (Ri (fun r M1 => r = M.1 15 0 7 ∧ M1 = M)) := by
  refine Ct.of (by decide) rfl (Nat.le_of_ble_eq_true rfl) ?_
  show G l D g ca md_X6_fault 0 [(0, .ref (g 12 0))] [] M _
  refine g_aload_n 1 0 dX6_fault_0 rfl rfl ?_
  refine g_geto 4 dX6_fault_1 rfl fX6_31 rfl (by decide) rfl ?_
  refine g_get 7 ((M.1 15 0 7)) dX6_fault_4 rfl fX6_81 rfl (by decide) rfl rfl ?_
  exact g_iret rfl dX6_fault_7 ⟨rfl, rfl⟩

set_option maxHeartbeats 4000000 in
set_option maxRecDepth 100000 in
theorem c_X7_fault {l : Launch} {D : va_G} {g : Nat → Nat → Nat} {ca : Nat → ClassId} {M : Mm}  : Ct l D g ca md_X7_fault [.ref (g 18 0)] M (Ri (fun r M1 => r = M.1 18 0 8 ∧ M1 = wr M 18 0 0 (nI 0))) := by
  refine Ct.of (by decide) rfl (Nat.le_of_ble_eq_true rfl) ?_
  show G l D g ca md_X7_fault 0 [(0, .ref (g 18 0))] [] M _
  refine g_aload_n 1 0 dX7_fault_0 rfl rfl ?_
  refine g_iconst 2 (nI 0) dX7_fault_1 rfl rfl ?_
  refine g_put 5 dX7_fault_2 rfl fX7_1 pX7_0 rfl (by decide) rfl ?_
  refine g_aload_n 6 0 dX7_fault_5 rfl rfl ?_
  refine g_get 9 ((M.1 18 0 8)) dX7_fault_6 rfl fX7_52 rfl (by decide) rfl ((wr_ne (by omega)).trans rfl) ?_
  exact g_iret rfl dX7_fault_9 ⟨rfl, rfl⟩
