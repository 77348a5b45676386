
/-! ===== the class's public methods ===== -/
def uSize (w h : Int32) : Int32 := if wi w 1 4 = 0 then 1 else if wi h 1 3 = 0 then 1 else 0
def uMatrix (a i v : Int32) : Int32 := if wi a 0 1 = 0 then 1 else if wi i 0 63 = 0 then 1 else if wi v 1 255 = 0 then 1 else 0
def uBegin (kd k f b : Int32) : Int32 := if wi k 1 3 = 0 then 1 else if wi f 1 16 = 0 then 1 else if wi b 1 16 = 0 then 1 else if kd = 0 then 0 else 2
def uScale (kd q : Int32) : Int32 := if wi q 1 31 = 0 then 1 else if kd = 0 then 2 else 0
def uItself (sq di : Int32) : Int32 := if sq = 0 then 2 else if di = 0 then 0 else 2
def uVec0 (d : Int32) : Int32 := if wi d 0 1 = 0 then 1 else 0
def uVec (r0 r1 sq fi kh : Int32) : Int32 := if r0 = 0 then 1 else if r1 = 0 then 1 else if sq = 0 then 2 else if fi = 0 then (if kh = 0 then 2 else 0) else 2
def uLevel (b i v sq : Int32) : Int32 := if wi b 0 5 = 0 then 1 else if wi i 0 63 = 0 then 1 else if wi v (-255) 255 = 0 then 1 else if sq = 0 then 2 else 0
def uSquare (sq en : Int32) : Int32 := if sq = 0 then 2 else if en = 0 then 2 else 0
def uLeave (n sq ml : Int32) : Int32 := if wi n 1 sq = 0 then 1 else if ml = 0 then 2 else 0
def uDone (kd sq : Int32) : Int32 := if kd = 0 then 2 else if sq = 0 then 0 else 2
def uLast (kd : Int32) : Int32 := if kd = 0 then 0 else 2
def uSeen (sc : Int32) : Int32 := if sc = 0 then 2 else 0
def uSam0 (sc p : Int32) : Int32 := if sc = 0 then 2 else if wi p 0 2 = 0 then 3 else 0
def uSam (sc ho : Int32) : Int32 := if sc = 0 then 2 else if ho = 0 then 3 else 0
def uLight (ga of : UInt32) (sc : Int32) : Int32 := if Op.cmpValue (FP.fcmp ga 3296329728) .l < 0 then 1 else if 0 < Op.cmpValue (FP.fcmp ga 1148846080) .g then 1 else if Op.cmpValue (FP.fcmp of 3351465984) .l < 0 then 1 else if 0 < Op.cmpValue (FP.fcmp of 1203982336) .g then 1 else if sc = 0 then 2 else 0
def uError (sc hk : Int32) : Int32 := if sc = 0 then 2 else if hk = 0 then 2 else 0
def uTold (w : Int32) : Int32 := if wi w 0 10 = 0 then 1 else 0

set_option maxHeartbeats 4000000 in
set_option maxRecDepth 100000 in
theorem c_X6_size (l : Launch) (D : va_G) (cs : Nat → ClassId) (tt : Nat → Nat) (dk sf bl mn cm Wd Hd md kea ke ol ola olp0 olp1 olp2 ol0 ol1 ol2 ne nea nep0 nep1 nep2 ne0 ne1 ne2 op opa opp0 opp1 opp2 op0 op1 op2 sh sha shp0 shp1 shp2 sh0 sh1 sh2 W H w h mt m0 m1 ps tu co ha pa mo lv : Nat) (kd fb hk nw dc sc fa wh fi di an : Int32) (go0 go1 go2 gn0 gn1 gn2 gp0 gp1 gp2 gs0 gs1 gs2 gk M0 M1 P V Mo Lv : Nat → Int32) (hu : uSize (nI w) (nI h) = 0) : xM l yX6_size wsX6_size ({ frames := 5, cells := 0, slots := 0, locals := 112 } : Room) D cs tt [.ref dk, .int (nI w), .int (nI h)] [(dk, .inr (6, [.ref sf, .ref bl, .ref mn, .ref cm, .int (nI Wd), .int (nI Hd), .int kd, .int (nI md), .int fb])), (sf, .inr (5, [.ref ol, .ref ne, .ref op, .ref sh, .ref ke, .int hk, .int nw, .int dc, .int sc])), (op, .inr (3, [.ref opa])), (opa, .inl (cs 2, 3, .inr (.inr (.inr (.inr (tri opp0 opp1 opp2)))))), (opp0, .inr (4, [.int (nI 16), .ref op0, .int (nI (16 * W)), .int (nI (16 * H))])), (op0, .inl (cs 0, 3072, .inl gp0)), (opp1, .inr (4, [.int (nI 8), .ref op1, .int (nI (8 * W)), .int (nI (8 * H))])), (op1, .inl (cs 0, 768, .inl gp1)), (opp2, .inr (4, [.int (nI 8), .ref op2, .int (nI (8 * W)), .int (nI (8 * H))])), (op2, .inl (cs 0, 768, .inl gp2)), (ne, .inr (3, [.ref nea])), (nea, .inl (cs 2, 3, .inr (.inr (.inr (.inr (tri nep0 nep1 nep2)))))), (nep0, .inr (4, [.int (nI 16), .ref ne0, .int (nI (16 * W)), .int (nI (16 * H))])), (ne0, .inl (cs 0, 3072, .inl gn0)), (nep1, .inr (4, [.int (nI 8), .ref ne1, .int (nI (8 * W)), .int (nI (8 * H))])), (ne1, .inl (cs 0, 768, .inl gn1)), (nep2, .inr (4, [.int (nI 8), .ref ne2, .int (nI (8 * W)), .int (nI (8 * H))])), (ne2, .inl (cs 0, 768, .inl gn2)), (ol, .inr (3, [.ref ola])), (ola, .inl (cs 2, 3, .inr (.inr (.inr (.inr (tri olp0 olp1 olp2)))))), (olp0, .inr (4, [.int (nI 16), .ref ol0, .int (nI (16 * W)), .int (nI (16 * H))])), (ol0, .inl (cs 0, 3072, .inl go0)), (olp1, .inr (4, [.int (nI 8), .ref ol1, .int (nI (8 * W)), .int (nI (8 * H))])), (ol1, .inl (cs 0, 768, .inl go1)), (olp2, .inr (4, [.int (nI 8), .ref ol2, .int (nI (8 * W)), .int (nI (8 * H))])), (ol2, .inl (cs 0, 768, .inl go2)), (sh, .inr (3, [.ref sha])), (sha, .inl (cs 2, 3, .inr (.inr (.inr (.inr (tri shp0 shp1 shp2)))))), (shp0, .inr (4, [.int (nI 16), .ref sh0, .int (nI (16 * W)), .int (nI (16 * H))])), (sh0, .inl (cs 0, 3072, .inl gs0)), (shp1, .inr (4, [.int (nI 8), .ref sh1, .int (nI (8 * W)), .int (nI (8 * H))])), (sh1, .inl (cs 0, 768, .inl gs1)), (shp2, .inr (4, [.int (nI 8), .ref sh2, .int (nI (8 * W)), .int (nI (8 * H))])), (sh2, .inl (cs 0, 768, .inl gs2)), (ke, .inr (4, [.int (nI 16), .ref kea, .int (nI (16 * W)), .int (nI (16 * H))])), (kea, .inl (cs 0, 3072, .inl gk)), (bl, .inr (0, [.ref mt, .ref ps, .ref tu, .int fa, .ref co, .ref ha])), (mt, .inl (cs 3, 2, .inr (.inr (.inr (.inr (duo m0 m1)))))), (m0, .inl (cs 0, 64, .inl M0)), (m1, .inl (cs 0, 64, .inl M1)), (ps, .inl (cs 0, 3, .inl P)), (mn, .inr (2, [.ref pa, .ref mo, .int wh])), (pa, .inl (cs 0, 4, .inl V)), (mo, .inl (cs 0, 2, .inl Mo)), (cm, .inr (1, [.ref lv, .int fi, .int di, .int an])), (lv, .inl (cs 0, 384, .inl Lv))] none [(dk, .inr (6, [.ref sf, .ref bl, .ref mn, .ref cm, .int (nI w), .int (nI h), .int 0, .int (nI 0), .int fb])), (sf, .inr (5, [.ref ol, .ref ne, .ref op, .ref sh, .ref ke, .int 0, .int 0, .int 0, .int 0])), (op, .inr (3, [.ref opa])), (opa, .inl (cs 2, 3, .inr (.inr (.inr (.inr (tri opp0 opp1 opp2)))))), (opp0, .inr (4, [.int (nI 16), .ref op0, .int (nI (16 * w)), .int (nI (16 * h))])), (op0, .inl (cs 0, 3072, .inl (fun _ => 128))), (opp1, .inr (4, [.int (nI 8), .ref op1, .int (nI (8 * w)), .int (nI (8 * h))])), (op1, .inl (cs 0, 768, .inl (fun _ => 128))), (opp2, .inr (4, [.int (nI 8), .ref op2, .int (nI (8 * w)), .int (nI (8 * h))])), (op2, .inl (cs 0, 768, .inl (fun _ => 128))), (ne, .inr (3, [.ref nea])), (nea, .inl (cs 2, 3, .inr (.inr (.inr (.inr (tri nep0 nep1 nep2)))))), (nep0, .inr (4, [.int (nI 16), .ref ne0, .int (nI (16 * w)), .int (nI (16 * h))])), (ne0, .inl (cs 0, 3072, .inl (fun _ => 128))), (nep1, .inr (4, [.int (nI 8), .ref ne1, .int (nI (8 * w)), .int (nI (8 * h))])), (ne1, .inl (cs 0, 768, .inl (fun _ => 128))), (nep2, .inr (4, [.int (nI 8), .ref ne2, .int (nI (8 * w)), .int (nI (8 * h))])), (ne2, .inl (cs 0, 768, .inl (fun _ => 128))), (ol, .inr (3, [.ref ola])), (ola, .inl (cs 2, 3, .inr (.inr (.inr (.inr (tri olp0 olp1 olp2)))))), (olp0, .inr (4, [.int (nI 16), .ref ol0, .int (nI (16 * w)), .int (nI (16 * h))])), (ol0, .inl (cs 0, 3072, .inl (fun _ => 128))), (olp1, .inr (4, [.int (nI 8), .ref ol1, .int (nI (8 * w)), .int (nI (8 * h))])), (ol1, .inl (cs 0, 768, .inl (fun _ => 128))), (olp2, .inr (4, [.int (nI 8), .ref ol2, .int (nI (8 * w)), .int (nI (8 * h))])), (ol2, .inl (cs 0, 768, .inl (fun _ => 128))), (sh, .inr (3, [.ref sha])), (sha, .inl (cs 2, 3, .inr (.inr (.inr (.inr (tri shp0 shp1 shp2)))))), (shp0, .inr (4, [.int (nI 16), .ref sh0, .int (nI (16 * w)), .int (nI (16 * h))])), (sh0, .inl (cs 0, 3072, .inl (fun _ => 128))), (shp1, .inr (4, [.int (nI 8), .ref sh1, .int (nI (8 * w)), .int (nI (8 * h))])), (sh1, .inl (cs 0, 768, .inl (fun _ => 128))), (shp2, .inr (4, [.int (nI 8), .ref sh2, .int (nI (8 * w)), .int (nI (8 * h))])), (sh2, .inl (cs 0, 768, .inl (fun _ => 128))), (ke, .inr (4, [.int (nI 16), .ref kea, .int (nI (16 * w)), .int (nI (16 * h))])), (kea, .inl (cs 0, 3072, .inl (fun _ => 128))), (bl, .inr (0, [.ref mt, .ref ps, .ref tu, .int 1, .ref co, .ref ha])), (mt, .inl (cs 3, 2, .inr (.inr (.inr (.inr (duo m0 m1)))))), (m0, .inl (cs 0, 64, .inl (upd (fun _ => 16) 0 8))), (m1, .inl (cs 0, 64, .inl (fun _ => 16))), (ps, .inl (cs 0, 3, .inl (fun _ => 1024))), (mn, .inr (2, [.ref pa, .ref mo, .int 0])), (pa, .inl (cs 0, 4, .inl (fun _ => 0))), (mo, .inl (cs 0, 2, .inl (du (16 * 1) (16 * 1)))), (cm, .inr (1, [.ref lv, .int 0, .int 0, .int 0])), (lv, .inl (cs 0, 384, .inl (fun _ => 0)))] := by
  refine xM.of RX6 rfl (by decide) rfl (Nat.le_of_ble_eq_true rfl) ?_
  intro p e s m below meth c A ls hF hr hlk hX hP hD hS hl
  have hx := hF.1
  have hb := hF.2.1
  have hl : lv_has ls 3 [(0, .ref dk), (1, .int (nI w)), (2, .int (nI h))] := hl
  refine lv_iload_n hx hb dX6_size_0 rfl (lv_at hl 1 rfl) ?_
  refine lv_iconst (v := 1) hx hb dX6_size_1 (by decide) ?_
  refine lv_iconst (v := 4) hx hb dX6_size_2 (by decide) ?_
  refine xSt (rest := []) (As := [.int (nI w), .int 1, .int 4]) (ws1 := [(dk, .inr (6, [.ref sf, .ref bl, .ref mn, .ref cm, .int (nI Wd), .int (nI Hd), .int kd, .int (nI md), .int fb])), (sf, .inr (5, [.ref ol, .ref ne, .ref op, .ref sh, .ref ke, .int hk, .int nw, .int dc, .int sc])), (op, .inr (3, [.ref opa])), (opa, .inl (cs 2, 3, .inr (.inr (.inr (.inr (tri opp0 opp1 opp2)))))), (opp0, .inr (4, [.int (nI 16), .ref op0, .int (nI (16 * W)), .int (nI (16 * H))])), (op0, .inl (cs 0, 3072, .inl gp0)), (opp1, .inr (4, [.int (nI 8), .ref op1, .int (nI (8 * W)), .int (nI (8 * H))])), (op1, .inl (cs 0, 768, .inl gp1)), (opp2, .inr (4, [.int (nI 8), .ref op2, .int (nI (8 * W)), .int (nI (8 * H))])), (op2, .inl (cs 0, 768, .inl gp2)), (ne, .inr (3, [.ref nea])), (nea, .inl (cs 2, 3, .inr (.inr (.inr (.inr (tri nep0 nep1 nep2)))))), (nep0, .inr (4, [.int (nI 16), .ref ne0, .int (nI (16 * W)), .int (nI (16 * H))])), (ne0, .inl (cs 0, 3072, .inl gn0)), (nep1, .inr (4, [.int (nI 8), .ref ne1, .int (nI (8 * W)), .int (nI (8 * H))])), (ne1, .inl (cs 0, 768, .inl gn1)), (nep2, .inr (4, [.int (nI 8), .ref ne2, .int (nI (8 * W)), .int (nI (8 * H))])), (ne2, .inl (cs 0, 768, .inl gn2)), (ol, .inr (3, [.ref ola])), (ola, .inl (cs 2, 3, .inr (.inr (.inr (.inr (tri olp0 olp1 olp2)))))), (olp0, .inr (4, [.int (nI 16), .ref ol0, .int (nI (16 * W)), .int (nI (16 * H))])), (ol0, .inl (cs 0, 3072, .inl go0)), (olp1, .inr (4, [.int (nI 8), .ref ol1, .int (nI (8 * W)), .int (nI (8 * H))])), (ol1, .inl (cs 0, 768, .inl go1)), (olp2, .inr (4, [.int (nI 8), .ref ol2, .int (nI (8 * W)), .int (nI (8 * H))])), (ol2, .inl (cs 0, 768, .inl go2)), (sh, .inr (3, [.ref sha])), (sha, .inl (cs 2, 3, .inr (.inr (.inr (.inr (tri shp0 shp1 shp2)))))), (shp0, .inr (4, [.int (nI 16), .ref sh0, .int (nI (16 * W)), .int (nI (16 * H))])), (sh0, .inl (cs 0, 3072, .inl gs0)), (shp1, .inr (4, [.int (nI 8), .ref sh1, .int (nI (8 * W)), .int (nI (8 * H))])), (sh1, .inl (cs 0, 768, .inl gs1)), (shp2, .inr (4, [.int (nI 8), .ref sh2, .int (nI (8 * W)), .int (nI (8 * H))])), (sh2, .inl (cs 0, 768, .inl gs2)), (ke, .inr (4, [.int (nI 16), .ref kea, .int (nI (16 * W)), .int (nI (16 * H))])), (kea, .inl (cs 0, 3072, .inl gk)), (bl, .inr (0, [.ref mt, .ref ps, .ref tu, .int fa, .ref co, .ref ha])), (mt, .inl (cs 3, 2, .inr (.inr (.inr (.inr (duo m0 m1)))))), (m0, .inl (cs 0, 64, .inl M0)), (m1, .inl (cs 0, 64, .inl M1)), (ps, .inl (cs 0, 3, .inl P)), (mn, .inr (2, [.ref pa, .ref mo, .int wh])), (pa, .inl (cs 0, 4, .inl V)), (mo, .inl (cs 0, 2, .inl Mo)), (cm, .inr (1, [.ref lv, .int fi, .int di, .int an])), (lv, .inl (cs 0, 384, .inl Lv))]) (st1 := [.int (wi (nI w) 1 4)]) hF (c_X6_isWithin l D cs tt (nI w) 1 4) gX6_size_X6_isWithin rfl (n := 3) (by decide +kernel) rfl ⟨⟨rfl, rfl⟩, Nat.le_of_ble_eq_true rfl, Nat.le_of_ble_eq_true rfl⟩ ⟨Nat.le_of_ble_eq_true rfl, Nat.le_of_ble_eq_true rfl⟩ hX hP hD hS [] (by decide) rfl [] rfl rfl hl.1 rfl (Nat.le_of_ble_eq_true rfl) dX6_size_3 rfl rfl (fun Hp locs hP hD hS => ?_)
  refine lv_if_eq (tgt := 18) hx hb dX6_size_6 (by decide) (fun c_6 => ?_) (fun c_6 => ?_)
  · exact absurd (hu.symm.trans (show uSize (nI w) (nI h) = 1 by simp [uSize, c_6])) (by decide)
  · refine lv_iload_n hx hb dX6_size_9 rfl (lv_at hl 2 rfl) ?_
    refine lv_iconst (v := 1) hx hb dX6_size_10 (by decide) ?_
    refine lv_iconst (v := 3) hx hb dX6_size_11 (by decide) ?_
    refine xSt (rest := []) (As := [.int (nI h), .int 1, .int 3]) (ws1 := [(dk, .inr (6, [.ref sf, .ref bl, .ref mn, .ref cm, .int (nI Wd), .int (nI Hd), .int kd, .int (nI md), .int fb])), (sf, .inr (5, [.ref ol, .ref ne, .ref op, .ref sh, .ref ke, .int hk, .int nw, .int dc, .int sc])), (op, .inr (3, [.ref opa])), (opa, .inl (cs 2, 3, .inr (.inr (.inr (.inr (tri opp0 opp1 opp2)))))), (opp0, .inr (4, [.int (nI 16), .ref op0, .int (nI (16 * W)), .int (nI (16 * H))])), (op0, .inl (cs 0, 3072, .inl gp0)), (opp1, .inr (4, [.int (nI 8), .ref op1, .int (nI (8 * W)), .int (nI (8 * H))])), (op1, .inl (cs 0, 768, .inl gp1)), (opp2, .inr (4, [.int (nI 8), .ref op2, .int (nI (8 * W)), .int (nI (8 * H))])), (op2, .inl (cs 0, 768, .inl gp2)), (ne, .inr (3, [.ref nea])), (nea, .inl (cs 2, 3, .inr (.inr (.inr (.inr (tri nep0 nep1 nep2)))))), (nep0, .inr (4, [.int (nI 16), .ref ne0, .int (nI (16 * W)), .int (nI (16 * H))])), (ne0, .inl (cs 0, 3072, .inl gn0)), (nep1, .inr (4, [.int (nI 8), .ref ne1, .int (nI (8 * W)), .int (nI (8 * H))])), (ne1, .inl (cs 0, 768, .inl gn1)), (nep2, .inr (4, [.int (nI 8), .ref ne2, .int (nI (8 * W)), .int (nI (8 * H))])), (ne2, .inl (cs 0, 768, .inl gn2)), (ol, .inr (3, [.ref ola])), (ola, .inl (cs 2, 3, .inr (.inr (.inr (.inr (tri olp0 olp1 olp2)))))), (olp0, .inr (4, [.int (nI 16), .ref ol0, .int (nI (16 * W)), .int (nI (16 * H))])), (ol0, .inl (cs 0, 3072, .inl go0)), (olp1, .inr (4, [.int (nI 8), .ref ol1, .int (nI (8 * W)), .int (nI (8 * H))])), (ol1, .inl (cs 0, 768, .inl go1)), (olp2, .inr (4, [.int (nI 8), .ref ol2, .int (nI (8 * W)), .int (nI (8 * H))])), (ol2, .inl (cs 0, 768, .inl go2)), (sh, .inr (3, [.ref sha])), (sha, .inl (cs 2, 3, .inr (.inr (.inr (.inr (tri shp0 shp1 shp2)))))), (shp0, .inr (4, [.int (nI 16), .ref sh0, .int (nI (16 * W)), .int (nI (16 * H))])), (sh0, .inl (cs 0, 3072, .inl gs0)), (shp1, .inr (4, [.int (nI 8), .ref sh1, .int (nI (8 * W)), .int (nI (8 * H))])), (sh1, .inl (cs 0, 768, .inl gs1)), (shp2, .inr (4, [.int (nI 8), .ref sh2, .int (nI (8 * W)), .int (nI (8 * H))])), (sh2, .inl (cs 0, 768, .inl gs2)), (ke, .inr (4, [.int (nI 16), .ref kea, .int (nI (16 * W)), .int (nI (16 * H))])), (kea, .inl (cs 0, 3072, .inl gk)), (bl, .inr (0, [.ref mt, .ref ps, .ref tu, .int fa, .ref co, .ref ha])), (mt, .inl (cs 3, 2, .inr (.inr (.inr (.inr (duo m0 m1)))))), (m0, .inl (cs 0, 64, .inl M0)), (m1, .inl (cs 0, 64, .inl M1)), (ps, .inl (cs 0, 3, .inl P)), (mn, .inr (2, [.ref pa, .ref mo, .int wh])), (pa, .inl (cs 0, 4, .inl V)), (mo, .inl (cs 0, 2, .inl Mo)), (cm, .inr (1, [.ref lv, .int fi, .int di, .int an])), (lv, .inl (cs 0, 384, .inl Lv))]) (st1 := [.int (wi (nI h) 1 3)]) hF (c_X6_isWithin l D cs tt (nI h) 1 3) gX6_size_X6_isWithin rfl (n := 3) (by decide +kernel) rfl ⟨⟨rfl, rfl⟩, Nat.le_of_ble_eq_true rfl, Nat.le_of_ble_eq_true rfl⟩ ⟨Nat.le_of_ble_eq_true rfl, Nat.le_of_ble_eq_true rfl⟩ hX hP hD hS [] (by decide) rfl [] rfl rfl hl.1 rfl (Nat.le_of_ble_eq_true rfl) dX6_size_12 rfl rfl (fun Hp locs hP hD hS => ?_)
    refine lv_if_ne (tgt := 28) hx hb dX6_size_15 (by decide) (fun c_15 => ?_) (fun c_15 => ?_)
    · refine lv_aload_n hx hb dX6_size_28 rfl (lv_at hl 0 rfl) ?_
      refine lv_iload_n hx hb dX6_size_29 rfl (lv_at hl 1 rfl) ?_
      refine lv_iload_n hx hb dX6_size_30 rfl (lv_at hl 2 rfl) ?_
      refine xVM [true, true, true, true, true, true, true, true, true, true, true, true, true, true, true, true, true, true, true, true, true, true, true, true, true, true, true, true, true, true, true, true, true, true, true, true, true, true, true, true, true, true, true, true, true, true] (rest := []) (As := [.int (nI w), .int (nI h)]) (ws1 := [(dk, .inr (6, [.ref sf, .ref bl, .ref mn, .ref cm, .int (nI w), .int (nI h), .int 0, .int (nI 0), .int fb])), (sf, .inr (5, [.ref ol, .ref ne, .ref op, .ref sh, .ref ke, .int 0, .int 0, .int 0, .int 0])), (op, .inr (3, [.ref opa])), (opa, .inl (cs 2, 3, .inr (.inr (.inr (.inr (tri opp0 opp1 opp2)))))), (opp0, .inr (4, [.int (nI 16), .ref op0, .int (nI (16 * w)), .int (nI (16 * h))])), (op0, .inl (cs 0, 3072, .inl (fun _ => 128))), (opp1, .inr (4, [.int (nI 8), .ref op1, .int (nI (8 * w)), .int (nI (8 * h))])), (op1, .inl (cs 0, 768, .inl (fun _ => 128))), (opp2, .inr (4, [.int (nI 8), .ref op2, .int (nI (8 * w)), .int (nI (8 * h))])), (op2, .inl (cs 0, 768, .inl (fun _ => 128))), (ne, .inr (3, [.ref nea])), (nea, .inl (cs 2, 3, .inr (.inr (.inr (.inr (tri nep0 nep1 nep2)))))), (nep0, .inr (4, [.int (nI 16), .ref ne0, .int (nI (16 * w)), .int (nI (16 * h))])), (ne0, .inl (cs 0, 3072, .inl (fun _ => 128))), (nep1, .inr (4, [.int (nI 8), .ref ne1, .int (nI (8 * w)), .int (nI (8 * h))])), (ne1, .inl (cs 0, 768, .inl (fun _ => 128))), (nep2, .inr (4, [.int (nI 8), .ref ne2, .int (nI (8 * w)), .int (nI (8 * h))])), (ne2, .inl (cs 0, 768, .inl (fun _ => 128))), (ol, .inr (3, [.ref ola])), (ola, .inl (cs 2, 3, .inr (.inr (.inr (.inr (tri olp0 olp1 olp2)))))), (olp0, .inr (4, [.int (nI 16), .ref ol0, .int (nI (16 * w)), .int (nI (16 * h))])), (ol0, .inl (cs 0, 3072, .inl (fun _ => 128))), (olp1, .inr (4, [.int (nI 8), .ref ol1, .int (nI (8 * w)), .int (nI (8 * h))])), (ol1, .inl (cs 0, 768, .inl (fun _ => 128))), (olp2, .inr (4, [.int (nI 8), .ref ol2, .int (nI (8 * w)), .int (nI (8 * h))])), (ol2, .inl (cs 0, 768, .inl (fun _ => 128))), (sh, .inr (3, [.ref sha])), (sha, .inl (cs 2, 3, .inr (.inr (.inr (.inr (tri shp0 shp1 shp2)))))), (shp0, .inr (4, [.int (nI 16), .ref sh0, .int (nI (16 * w)), .int (nI (16 * h))])), (sh0, .inl (cs 0, 3072, .inl (fun _ => 128))), (shp1, .inr (4, [.int (nI 8), .ref sh1, .int (nI (8 * w)), .int (nI (8 * h))])), (sh1, .inl (cs 0, 768, .inl (fun _ => 128))), (shp2, .inr (4, [.int (nI 8), .ref sh2, .int (nI (8 * w)), .int (nI (8 * h))])), (sh2, .inl (cs 0, 768, .inl (fun _ => 128))), (ke, .inr (4, [.int (nI 16), .ref kea, .int (nI (16 * w)), .int (nI (16 * h))])), (kea, .inl (cs 0, 3072, .inl (fun _ => 128))), (bl, .inr (0, [.ref mt, .ref ps, .ref tu, .int 1, .ref co, .ref ha])), (mt, .inl (cs 3, 2, .inr (.inr (.inr (.inr (duo m0 m1)))))), (m0, .inl (cs 0, 64, .inl (upd (fun _ => 16) 0 8))), (m1, .inl (cs 0, 64, .inl (fun _ => 16))), (ps, .inl (cs 0, 3, .inl (fun _ => 1024))), (mn, .inr (2, [.ref pa, .ref mo, .int 0])), (pa, .inl (cs 0, 4, .inl (fun _ => 0))), (mo, .inl (cs 0, 2, .inl (du (16 * 1) (16 * 1)))), (cm, .inr (1, [.ref lv, .int 0, .int 0, .int 0])), (lv, .inl (cs 0, 384, .inl (fun _ => 0)))]) (st1 := []) hF (c_X6_beginAnew l D cs tt dk sf bl mn cm Wd Hd md kea ke ol ola olp0 olp1 olp2 ol0 ol1 ol2 ne nea nep0 nep1 nep2 ne0 ne1 ne2 op opa opp0 opp1 opp2 op0 op1 op2 sh sha shp0 shp1 shp2 sh0 sh1 sh2 W H w h mt m0 m1 ps tu co ha pa mo lv kd fb hk nw dc sc fa wh fi di an go0 go1 go2 gn0 gn1 gn2 gp0 gp1 gp2 gs0 gs1 gs2 gk M0 M1 P V Mo Lv) gX6_size_X6_beginAnew rfl (n := 2) (by decide +kernel) rfl ⟨⟨rfl, rfl⟩, Nat.le_of_ble_eq_true rfl, Nat.le_of_ble_eq_true rfl⟩ ⟨Nat.le_of_ble_eq_true rfl, Nat.le_of_ble_eq_true rfl⟩ hX hP hD hS rfl [dk, sf, op, opa, opp0, op0, opp1, op1, opp2, op2, ne, nea, nep0, ne0, nep1, ne1, nep2, ne2, ol, ola, olp0, ol0, olp1, ol1, olp2, ol2, sh, sha, shp0, sh0, shp1, sh1, shp2, sh2, ke, kea, bl, mt, m0, m1, ps, mn, pa, mo, cm, lv] rfl rfl (q0 := 0) (ci := 6) rfl rfl rfl hl.1 rfl (Nat.le_of_ble_eq_true rfl) dX6_size_31 rfl rfl (fun Hp locs hP hD hS => ?_)
      exact xrv hF hr hlk hP hD hS dX6_size_34
    · exact absurd (hu.symm.trans (show uSize (nI w) (nI h) = 1 by simp [uSize, c_6, c_15])) (by decide)

set_option maxHeartbeats 4000000 in
set_option maxRecDepth 100000 in
theorem c_X6_size_x (l : Launch) (D : va_G) (cs : Nat → ClassId) (tt : Nat → Nat) (dk : Nat) (w h : Int32) (hls : l.stackTraces = false) (hu : uSize w h = 1) : xT l yX6_size wsX6_size ({ frames := 6, cells := 1, slots := 6, locals := 82 } : Room) D cs tt [.ref dk, .int w, .int h] [] xIAE := by
  refine xT.of RX6 rfl (by decide) rfl (Nat.le_of_ble_eq_true rfl) ?_
  intro p e s m below meth c A ls hF hto hlk hX hC hP hD hS hl
  have hx := hF.1
  have hb := hF.2.1
  have hl : lv_has ls 3 [(0, .ref dk), (1, .int w), (2, .int h)] := hl
  refine lv_iload_n hx hb dX6_size_0 rfl (lv_at hl 1 rfl) ?_
  refine lv_iconst (v := 1) hx hb dX6_size_1 (by decide) ?_
  refine lv_iconst (v := 4) hx hb dX6_size_2 (by decide) ?_
  refine xSt (rest := []) (As := [.int w, .int 1, .int 4]) (ws1 := []) (st1 := [.int (wi w 1 4)]) hF (c_X6_isWithin l D cs tt w 1 4) gX6_size_X6_isWithin rfl (n := 3) (by decide +kernel) rfl ⟨⟨rfl, rfl⟩, Nat.le_of_ble_eq_true rfl, Nat.le_of_ble_eq_true rfl⟩ ⟨Nat.le_of_ble_eq_true rfl, Nat.le_of_ble_eq_true rfl⟩ hX hP hD hS [] (by decide) rfl [] rfl rfl hl.1 rfl (Nat.le_of_ble_eq_true rfl) dX6_size_3 rfl rfl (fun Hp locs hP hD hS => ?_)
  refine lv_if_eq (tgt := 18) hx hb dX6_size_6 (by decide) (fun c_6 => ?_) (fun c_6 => ?_)
  · exact xthr (cls := xIAE) (text := "no such size") hF hto hls hlk hX hC hP hD hS hl.1 (by decide +kernel) (by decide +kernel) (by decide +kernel) (by decide +kernel) (by decide) xot1 xng1 (by decide +kernel) dX6_size_18 dX6_size_21 dX6_size_22 dX6_size_24 dX6_size_27 (Nat.le_of_ble_eq_true rfl) (Nat.le_of_ble_eq_true rfl) (Nat.le_of_ble_eq_true rfl) (Nat.le_of_ble_eq_true rfl)
  · refine lv_iload_n hx hb dX6_size_9 rfl (lv_at hl 2 rfl) ?_
    refine lv_iconst (v := 1) hx hb dX6_size_10 (by decide) ?_
    refine lv_iconst (v := 3) hx hb dX6_size_11 (by decide) ?_
    refine xSt (rest := []) (As := [.int h, .int 1, .int 3]) (ws1 := []) (st1 := [.int (wi h 1 3)]) hF (c_X6_isWithin l D cs tt h 1 3) gX6_size_X6_isWithin rfl (n := 3) (by decide +kernel) rfl ⟨⟨rfl, rfl⟩, Nat.le_of_ble_eq_true rfl, Nat.le_of_ble_eq_true rfl⟩ ⟨Nat.le_of_ble_eq_true rfl, Nat.le_of_ble_eq_true rfl⟩ hX hP hD hS [] (by decide) rfl [] rfl rfl hl.1 rfl (Nat.le_of_ble_eq_true rfl) dX6_size_12 rfl rfl (fun Hp locs hP hD hS => ?_)
    refine lv_if_ne (tgt := 28) hx hb dX6_size_15 (by decide) (fun c_15 => ?_) (fun c_15 => ?_)
    · exact absurd (hu.symm.trans (show uSize w h = 0 by simp [uSize, c_6, c_15])) (by decide)
    · exact xthr (cls := xIAE) (text := "no such size") hF hto hls hlk hX hC hP hD hS hl.1 (by decide +kernel) (by decide +kernel) (by decide +kernel) (by decide +kernel) (by decide) xot1 xng1 (by decide +kernel) dX6_size_18 dX6_size_21 dX6_size_22 dX6_size_24 dX6_size_27 (Nat.le_of_ble_eq_true rfl) (Nat.le_of_ble_eq_true rfl) (Nat.le_of_ble_eq_true rfl) (Nat.le_of_ble_eq_true rfl)

set_option maxHeartbeats 4000000 in
set_option maxRecDepth 100000 in
theorem c_X6_matrix0 (l : Launch) (D : va_G) (cs : Nat → ClassId) (tt : Nat → Nat) (dk sf bl mn cm W H md mt m0 m1 ps tu co ha j : Nat) (kd fb fa v : Int32) (M0 : Nat → Int32) (hu : uMatrix 0 (nI j) v = 0) (hj : j < 64) : xM l yX6_matrix wsX6_matrix ({ frames := 1, cells := 0, slots := 0, locals := 22 } : Room) D cs tt [.ref dk, .int 0, .int (nI j), .int v] [(dk, .inr (6, [.ref sf, .ref bl, .ref mn, .ref cm, .int (nI W), .int (nI H), .int kd, .int (nI md), .int fb])), (bl, .inr (0, [.ref mt, .ref ps, .ref tu, .int fa, .ref co, .ref ha])), (mt, .inl (cs 3, 2, .inr (.inr (.inr (.inr (duo m0 m1)))))), (m0, .inl (cs 0, 64, .inl M0))] (some (.int (M0 j))) [(dk, .inr (6, [.ref sf, .ref bl, .ref mn, .ref cm, .int (nI W), .int (nI H), .int kd, .int (nI md), .int fb])), (bl, .inr (0, [.ref mt, .ref ps, .ref tu, .int fa, .ref co, .ref ha])), (mt, .inl (cs 3, 2, .inr (.inr (.inr (.inr (duo m0 m1)))))), (m0, .inl (cs 0, 64, .inl (upd M0 j v)))] := by
  refine xM.of RX6 rfl (by decide) rfl (Nat.le_of_ble_eq_true rfl) ?_
  intro p e s m below meth c A ls hF hr hlk hX hP hD hS hl
  have hx := hF.1
  have hb := hF.2.1
  have hl : lv_has ls 5 [(0, .ref dk), (1, .int 0), (2, .int (nI j)), (3, .int v)] := hl
  refine lv_iload_n hx hb dX6_matrix_0 rfl (lv_at hl 1 rfl) ?_
  refine lv_iconst (v := 0) hx hb dX6_matrix_1 (by decide) ?_
  refine lv_iconst (v := 1) hx hb dX6_matrix_2 (by decide) ?_
  refine xSt (rest := []) (As := [.int 0, .int 0, .int 1]) (ws1 := [(dk, .inr (6, [.ref sf, .ref bl, .ref mn, .ref cm, .int (nI W), .int (nI H), .int kd, .int (nI md), .int fb])), (bl, .inr (0, [.ref mt, .ref ps, .ref tu, .int fa, .ref co, .ref ha])), (mt, .inl (cs 3, 2, .inr (.inr (.inr (.inr (duo m0 m1)))))), (m0, .inl (cs 0, 64, .inl M0))]) (st1 := [.int (wi 0 0 1)]) hF (c_X6_isWithin l D cs tt 0 0 1) gX6_matrix_X6_isWithin rfl (n := 3) (by decide +kernel) rfl ⟨⟨rfl, rfl⟩, Nat.le_of_ble_eq_true rfl, Nat.le_of_ble_eq_true rfl⟩ ⟨Nat.le_of_ble_eq_true rfl, Nat.le_of_ble_eq_true rfl⟩ hX hP hD hS [] (by decide) rfl [] rfl rfl hl.1 rfl (Nat.le_of_ble_eq_true rfl) dX6_matrix_3 rfl rfl (fun Hp locs hP hD hS => ?_)
  refine lv_if_eq (tgt := 30) hx hb dX6_matrix_6 (by decide) (fun c_6 => ?_) (fun c_6 => ?_)
  · exact absurd (hu.symm.trans (show uMatrix 0 (nI j) v = 1 by simp [uMatrix, c_6])) (by decide)
  · refine lv_iload_n hx hb dX6_matrix_9 rfl (lv_at hl 2 rfl) ?_
    refine lv_iconst (v := 0) hx hb dX6_matrix_10 (by decide) ?_
    refine lv_bipush (v := 63) hx hb dX6_matrix_11 (by decide) ?_
    refine xSt (rest := []) (As := [.int (nI j), .int 0, .int 63]) (ws1 := [(dk, .inr (6, [.ref sf, .ref bl, .ref mn, .ref cm, .int (nI W), .int (nI H), .int kd, .int (nI md), .int fb])), (bl, .inr (0, [.ref mt, .ref ps, .ref tu, .int fa, .ref co, .ref ha])), (mt, .inl (cs 3, 2, .inr (.inr (.inr (.inr (duo m0 m1)))))), (m0, .inl (cs 0, 64, .inl M0))]) (st1 := [.int (wi (nI j) 0 63)]) hF (c_X6_isWithin l D cs tt (nI j) 0 63) gX6_matrix_X6_isWithin rfl (n := 3) (by decide +kernel) rfl ⟨⟨rfl, rfl⟩, Nat.le_of_ble_eq_true rfl, Nat.le_of_ble_eq_true rfl⟩ ⟨Nat.le_of_ble_eq_true rfl, Nat.le_of_ble_eq_true rfl⟩ hX hP hD hS [] (by decide) rfl [] rfl rfl hl.1 rfl (Nat.le_of_ble_eq_true rfl) dX6_matrix_13 rfl rfl (fun Hp locs hP hD hS => ?_)
    refine lv_if_eq (tgt := 30) hx hb dX6_matrix_16 (by decide) (fun c_16 => ?_) (fun c_16 => ?_)
    · exact absurd (hu.symm.trans (show uMatrix 0 (nI j) v = 1 by simp [uMatrix, c_6, c_16])) (by decide)
    · refine lv_iload_n hx hb dX6_matrix_19 rfl (lv_at hl 3 rfl) ?_
      refine lv_iconst (v := 1) hx hb dX6_matrix_20 (by decide) ?_
      refine lv_sipush (v := 255) hx hb dX6_matrix_21 (by decide) ?_
      refine xSt (rest := []) (As := [.int v, .int 1, .int 255]) (ws1 := [(dk, .inr (6, [.ref sf, .ref bl, .ref mn, .ref cm, .int (nI W), .int (nI H), .int kd, .int (nI md), .int fb])), (bl, .inr (0, [.ref mt, .ref ps, .ref tu, .int fa, .ref co, .ref ha])), (mt, .inl (cs 3, 2, .inr (.inr (.inr (.inr (duo m0 m1)))))), (m0, .inl (cs 0, 64, .inl M0))]) (st1 := [.int (wi v 1 255)]) hF (c_X6_isWithin l D cs tt v 1 255) gX6_matrix_X6_isWithin rfl (n := 3) (by decide +kernel) rfl ⟨⟨rfl, rfl⟩, Nat.le_of_ble_eq_true rfl, Nat.le_of_ble_eq_true rfl⟩ ⟨Nat.le_of_ble_eq_true rfl, Nat.le_of_ble_eq_true rfl⟩ hX hP hD hS [] (by decide) rfl [] rfl rfl hl.1 rfl (Nat.le_of_ble_eq_true rfl) dX6_matrix_24 rfl rfl (fun Hp locs hP hD hS => ?_)
      refine lv_if_ne (tgt := 40) hx hb dX6_matrix_27 (by decide) (fun c_27 => ?_) (fun c_27 => ?_)
      · refine lv_aload_n hx hb dX6_matrix_40 rfl (lv_at hl 0 rfl) ?_
        refine xget (C := RX6) (T := TX6) (N := 9) hF hX hP (by decide +kernel) 0 1 rfl rfl (by decide) (by decide +kernel) rfl dX6_matrix_41 ?_
        refine xget (C := RX0) (T := TX0) (N := 6) hF hX hP (by decide +kernel) 1 0 rfl rfl (by decide) (by decide +kernel) rfl dX6_matrix_44 ?_
        refine lv_iload_n hx hb dX6_matrix_47 rfl (lv_at hl 1 rfl) ?_
        refine xaaldI (k := 0) (v := m0) hF hX hP 2 rfl (rfl) (vp_in_nI (n := 0) (by decide) (by decide)) (rfl) dX6_matrix_48 ?_
        refine lv_iload_n hx hb dX6_matrix_49 rfl (lv_at hl 2 rfl) ?_
        refine xald (k := j) hF hX hP 3 rfl (nI_clamp (by omega)) (vp_in_nI (by omega) (by decide)) dX6_matrix_50 ?_
        refine lv_istore (lv' := [(4, .int (M0 j)), (0, .ref dk), (1, .int 0), (2, .int (nI j)), (3, .int v)]) hx hb dX6_matrix_51 hl (by decide) rfl (fun ls hl => ?_)
        refine lv_aload_n hx hb dX6_matrix_53 rfl (lv_at hl 1 rfl) ?_
        refine xget (C := RX6) (T := TX6) (N := 9) hF hX hP (by decide +kernel) 0 1 rfl rfl (by decide) (by decide +kernel) rfl dX6_matrix_54 ?_
        refine xget (C := RX0) (T := TX0) (N := 6) hF hX hP (by decide +kernel) 1 0 rfl rfl (by decide) (by decide +kernel) rfl dX6_matrix_57 ?_
        refine lv_iload_n hx hb dX6_matrix_60 rfl (lv_at hl 2 rfl) ?_
        refine xaaldI (k := 0) (v := m0) hF hX hP 2 rfl (rfl) (vp_in_nI (n := 0) (by decide) (by decide)) (rfl) dX6_matrix_61 ?_
        refine lv_iload_n hx hb dX6_matrix_62 rfl (lv_at hl 3 rfl) ?_
        refine lv_iload_n hx hb dX6_matrix_63 rfl (lv_at hl 4 rfl) ?_
        refine xast (k := j) (ws1 := [(dk, .inr (6, [.ref sf, .ref bl, .ref mn, .ref cm, .int (nI W), .int (nI H), .int kd, .int (nI md), .int fb])), (bl, .inr (0, [.ref mt, .ref ps, .ref tu, .int fa, .ref co, .ref ha])), (mt, .inl (cs 3, 2, .inr (.inr (.inr (.inr (duo m0 m1)))))), (m0, .inl (cs 0, 64, .inl (upd M0 j v)))]) hF hX hP hD hS 3 rfl (nI_clamp (by omega)) (vp_in_nI (by omega) (by decide)) dX6_matrix_64 rfl (fun Hp locs hP hD hS => ?_)
        refine lv_iload hx hb dX6_matrix_65 (lv_at hl 0 rfl) ?_
        exact xri (Q9 := fun _ _ _ _ => True) hF hr hlk hP hD hS dX6_matrix_67
      · exact absurd (hu.symm.trans (show uMatrix 0 (nI j) v = 1 by simp [uMatrix, c_6, c_16, c_27])) (by decide)

set_option maxHeartbeats 4000000 in
set_option maxRecDepth 100000 in
theorem c_X6_matrix1 (l : Launch) (D : va_G) (cs : Nat → ClassId) (tt : Nat → Nat) (dk sf bl mn cm W H md mt m0 m1 ps tu co ha j : Nat) (kd fb fa v : Int32) (M0 : Nat → Int32) (hu : uMatrix 1 (nI j) v = 0) (hj : j < 64) : xM l yX6_matrix wsX6_matrix ({ frames := 1, cells := 0, slots := 0, locals := 22 } : Room) D cs tt [.ref dk, .int 1, .int (nI j), .int v] [(dk, .inr (6, [.ref sf, .ref bl, .ref mn, .ref cm, .int (nI W), .int (nI H), .int kd, .int (nI md), .int fb])), (bl, .inr (0, [.ref mt, .ref ps, .ref tu, .int fa, .ref co, .ref ha])), (mt, .inl (cs 3, 2, .inr (.inr (.inr (.inr (duo m0 m1)))))), (m1, .inl (cs 0, 64, .inl M0))] (some (.int (M0 j))) [(dk, .inr (6, [.ref sf, .ref bl, .ref mn, .ref cm, .int (nI W), .int (nI H), .int kd, .int (nI md), .int fb])), (bl, .inr (0, [.ref mt, .ref ps, .ref tu, .int fa, .ref co, .ref ha])), (mt, .inl (cs 3, 2, .inr (.inr (.inr (.inr (duo m0 m1)))))), (m1, .inl (cs 0, 64, .inl (upd M0 j v)))] := by
  refine xM.of RX6 rfl (by decide) rfl (Nat.le_of_ble_eq_true rfl) ?_
  intro p e s m below meth c A ls hF hr hlk hX hP hD hS hl
  have hx := hF.1
  have hb := hF.2.1
  have hl : lv_has ls 5 [(0, .ref dk), (1, .int 1), (2, .int (nI j)), (3, .int v)] := hl
  refine lv_iload_n hx hb dX6_matrix_0 rfl (lv_at hl 1 rfl) ?_
  refine lv_iconst (v := 0) hx hb dX6_matrix_1 (by decide) ?_
  refine lv_iconst (v := 1) hx hb dX6_matrix_2 (by decide) ?_
  refine xSt (rest := []) (As := [.int 1, .int 0, .int 1]) (ws1 := [(dk, .inr (6, [.ref sf, .ref bl, .ref mn, .ref cm, .int (nI W), .int (nI H), .int kd, .int (nI md), .int fb])), (bl, .inr (0, [.ref mt, .ref ps, .ref tu, .int fa, .ref co, .ref ha])), (mt, .inl (cs 3, 2, .inr (.inr (.inr (.inr (duo m0 m1)))))), (m1, .inl (cs 0, 64, .inl M0))]) (st1 := [.int (wi 1 0 1)]) hF (c_X6_isWithin l D cs tt 1 0 1) gX6_matrix_X6_isWithin rfl (n := 3) (by decide +kernel) rfl ⟨⟨rfl, rfl⟩, Nat.le_of_ble_eq_true rfl, Nat.le_of_ble_eq_true rfl⟩ ⟨Nat.le_of_ble_eq_true rfl, Nat.le_of_ble_eq_true rfl⟩ hX hP hD hS [] (by decide) rfl [] rfl rfl hl.1 rfl (Nat.le_of_ble_eq_true rfl) dX6_matrix_3 rfl rfl (fun Hp locs hP hD hS => ?_)
  refine lv_if_eq (tgt := 30) hx hb dX6_matrix_6 (by decide) (fun c_6 => ?_) (fun c_6 => ?_)
  · exact absurd (hu.symm.trans (show uMatrix 1 (nI j) v = 1 by simp [uMatrix, c_6])) (by decide)
  · refine lv_iload_n hx hb dX6_matrix_9 rfl (lv_at hl 2 rfl) ?_
    refine lv_iconst (v := 0) hx hb dX6_matrix_10 (by decide) ?_
    refine lv_bipush (v := 63) hx hb dX6_matrix_11 (by decide) ?_
    refine xSt (rest := []) (As := [.int (nI j), .int 0, .int 63]) (ws1 := [(dk, .inr (6, [.ref sf, .ref bl, .ref mn, .ref cm, .int (nI W), .int (nI H), .int kd, .int (nI md), .int fb])), (bl, .inr (0, [.ref mt, .ref ps, .ref tu, .int fa, .ref co, .ref ha])), (mt, .inl (cs 3, 2, .inr (.inr (.inr (.inr (duo m0 m1)))))), (m1, .inl (cs 0, 64, .inl M0))]) (st1 := [.int (wi (nI j) 0 63)]) hF (c_X6_isWithin l D cs tt (nI j) 0 63) gX6_matrix_X6_isWithin rfl (n := 3) (by decide +kernel) rfl ⟨⟨rfl, rfl⟩, Nat.le_of_ble_eq_true rfl, Nat.le_of_ble_eq_true rfl⟩ ⟨Nat.le_of_ble_eq_true rfl, Nat.le_of_ble_eq_true rfl⟩ hX hP hD hS [] (by decide) rfl [] rfl rfl hl.1 rfl (Nat.le_of_ble_eq_true rfl) dX6_matrix_13 rfl rfl (fun Hp locs hP hD hS => ?_)
    refine lv_if_eq (tgt := 30) hx hb dX6_matrix_16 (by decide) (fun c_16 => ?_) (fun c_16 => ?_)
    · exact absurd (hu.symm.trans (show uMatrix 1 (nI j) v = 1 by simp [uMatrix, c_6, c_16])) (by decide)
    · refine lv_iload_n hx hb dX6_matrix_19 rfl (lv_at hl 3 rfl) ?_
      refine lv_iconst (v := 1) hx hb dX6_matrix_20 (by decide) ?_
      refine lv_sipush (v := 255) hx hb dX6_matrix_21 (by decide) ?_
      refine xSt (rest := []) (As := [.int v, .int 1, .int 255]) (ws1 := [(dk, .inr (6, [.ref sf, .ref bl, .ref mn, .ref cm, .int (nI W), .int (nI H), .int kd, .int (nI md), .int fb])), (bl, .inr (0, [.ref mt, .ref ps, .ref tu, .int fa, .ref co, .ref ha])), (mt, .inl (cs 3, 2, .inr (.inr (.inr (.inr (duo m0 m1)))))), (m1, .inl (cs 0, 64, .inl M0))]) (st1 := [.int (wi v 1 255)]) hF (c_X6_isWithin l D cs tt v 1 255) gX6_matrix_X6_isWithin rfl (n := 3) (by decide +kernel) rfl ⟨⟨rfl, rfl⟩, Nat.le_of_ble_eq_true rfl, Nat.le_of_ble_eq_true rfl⟩ ⟨Nat.le_of_ble_eq_true rfl, Nat.le_of_ble_eq_true rfl⟩ hX hP hD hS [] (by decide) rfl [] rfl rfl hl.1 rfl (Nat.le_of_ble_eq_true rfl) dX6_matrix_24 rfl rfl (fun Hp locs hP hD hS => ?_)
      refine lv_if_ne (tgt := 40) hx hb dX6_matrix_27 (by decide) (fun c_27 => ?_) (fun c_27 => ?_)
      · refine lv_aload_n hx hb dX6_matrix_40 rfl (lv_at hl 0 rfl) ?_
        refine xget (C := RX6) (T := TX6) (N := 9) hF hX hP (by decide +kernel) 0 1 rfl rfl (by decide) (by decide +kernel) rfl dX6_matrix_41 ?_
        refine xget (C := RX0) (T := TX0) (N := 6) hF hX hP (by decide +kernel) 1 0 rfl rfl (by decide) (by decide +kernel) rfl dX6_matrix_44 ?_
        refine lv_iload_n hx hb dX6_matrix_47 rfl (lv_at hl 1 rfl) ?_
        refine xaaldI (k := 1) (v := m1) hF hX hP 2 rfl (rfl) (vp_in_nI (n := 1) (by decide) (by decide)) (rfl) dX6_matrix_48 ?_
        refine lv_iload_n hx hb dX6_matrix_49 rfl (lv_at hl 2 rfl) ?_
        refine xald (k := j) hF hX hP 3 rfl (nI_clamp (by omega)) (vp_in_nI (by omega) (by decide)) dX6_matrix_50 ?_
        refine lv_istore (lv' := [(4, .int (M0 j)), (0, .ref dk), (1, .int 1), (2, .int (nI j)), (3, .int v)]) hx hb dX6_matrix_51 hl (by decide) rfl (fun ls hl => ?_)
        refine lv_aload_n hx hb dX6_matrix_53 rfl (lv_at hl 1 rfl) ?_
        refine xget (C := RX6) (T := TX6) (N := 9) hF hX hP (by decide +kernel) 0 1 rfl rfl (by decide) (by decide +kernel) rfl dX6_matrix_54 ?_
        refine xget (C := RX0) (T := TX0) (N := 6) hF hX hP (by decide +kernel) 1 0 rfl rfl (by decide) (by decide +kernel) rfl dX6_matrix_57 ?_
        refine lv_iload_n hx hb dX6_matrix_60 rfl (lv_at hl 2 rfl) ?_
        refine xaaldI (k := 1) (v := m1) hF hX hP 2 rfl (rfl) (vp_in_nI (n := 1) (by decide) (by decide)) (rfl) dX6_matrix_61 ?_
        refine lv_iload_n hx hb dX6_matrix_62 rfl (lv_at hl 3 rfl) ?_
        refine lv_iload_n hx hb dX6_matrix_63 rfl (lv_at hl 4 rfl) ?_
        refine xast (k := j) (ws1 := [(dk, .inr (6, [.ref sf, .ref bl, .ref mn, .ref cm, .int (nI W), .int (nI H), .int kd, .int (nI md), .int fb])), (bl, .inr (0, [.ref mt, .ref ps, .ref tu, .int fa, .ref co, .ref ha])), (mt, .inl (cs 3, 2, .inr (.inr (.inr (.inr (duo m0 m1)))))), (m1, .inl (cs 0, 64, .inl (upd M0 j v)))]) hF hX hP hD hS 3 rfl (nI_clamp (by omega)) (vp_in_nI (by omega) (by decide)) dX6_matrix_64 rfl (fun Hp locs hP hD hS => ?_)
        refine lv_iload hx hb dX6_matrix_65 (lv_at hl 0 rfl) ?_
        exact xri (Q9 := fun _ _ _ _ => True) hF hr hlk hP hD hS dX6_matrix_67
      · exact absurd (hu.symm.trans (show uMatrix 1 (nI j) v = 1 by simp [uMatrix, c_6, c_16, c_27])) (by decide)

set_option maxHeartbeats 4000000 in
set_option maxRecDepth 100000 in
theorem c_X6_matrix_x (l : Launch) (D : va_G) (cs : Nat → ClassId) (tt : Nat → Nat) (dk : Nat) (a i v : Int32) (hls : l.stackTraces = false) (hu : uMatrix a i v = 1) : xT l yX6_matrix wsX6_matrix ({ frames := 6, cells := 1, slots := 6, locals := 82 } : Room) D cs tt [.ref dk, .int a, .int i, .int v] [] xIAE := by
  refine xT.of RX6 rfl (by decide) rfl (Nat.le_of_ble_eq_true rfl) ?_
  intro p e s m below meth c A ls hF hto hlk hX hC hP hD hS hl
  have hx := hF.1
  have hb := hF.2.1
  have hl : lv_has ls 5 [(0, .ref dk), (1, .int a), (2, .int i), (3, .int v)] := hl
  refine lv_iload_n hx hb dX6_matrix_0 rfl (lv_at hl 1 rfl) ?_
  refine lv_iconst (v := 0) hx hb dX6_matrix_1 (by decide) ?_
  refine lv_iconst (v := 1) hx hb dX6_matrix_2 (by decide) ?_
  refine xSt (rest := []) (As := [.int a, .int 0, .int 1]) (ws1 := []) (st1 := [.int (wi a 0 1)]) hF (c_X6_isWithin l D cs tt a 0 1) gX6_matrix_X6_isWithin rfl (n := 3) (by decide +kernel) rfl ⟨⟨rfl, rfl⟩, Nat.le_of_ble_eq_true rfl, Nat.le_of_ble_eq_true rfl⟩ ⟨Nat.le_of_ble_eq_true rfl, Nat.le_of_ble_eq_true rfl⟩ hX hP hD hS [] (by decide) rfl [] rfl rfl hl.1 rfl (Nat.le_of_ble_eq_true rfl) dX6_matrix_3 rfl rfl (fun Hp locs hP hD hS => ?_)
  refine lv_if_eq (tgt := 30) hx hb dX6_matrix_6 (by decide) (fun c_6 => ?_) (fun c_6 => ?_)
  · exact xthr (cls := xIAE) (text := "no such matrix, place or number") hF hto hls hlk hX hC hP hD hS hl.1 (by decide +kernel) (by decide +kernel) (by decide +kernel) (by decide +kernel) (by decide) xot1 xng1 (by decide +kernel) dX6_matrix_30 dX6_matrix_33 dX6_matrix_34 dX6_matrix_36 dX6_matrix_39 (Nat.le_of_ble_eq_true rfl) (Nat.le_of_ble_eq_true rfl) (Nat.le_of_ble_eq_true rfl) (Nat.le_of_ble_eq_true rfl)
  · refine lv_iload_n hx hb dX6_matrix_9 rfl (lv_at hl 2 rfl) ?_
    refine lv_iconst (v := 0) hx hb dX6_matrix_10 (by decide) ?_
    refine lv_bipush (v := 63) hx hb dX6_matrix_11 (by decide) ?_
    refine xSt (rest := []) (As := [.int i, .int 0, .int 63]) (ws1 := []) (st1 := [.int (wi i 0 63)]) hF (c_X6_isWithin l D cs tt i 0 63) gX6_matrix_X6_isWithin rfl (n := 3) (by decide +kernel) rfl ⟨⟨rfl, rfl⟩, Nat.le_of_ble_eq_true rfl, Nat.le_of_ble_eq_true rfl⟩ ⟨Nat.le_of_ble_eq_true rfl, Nat.le_of_ble_eq_true rfl⟩ hX hP hD hS [] (by decide) rfl [] rfl rfl hl.1 rfl (Nat.le_of_ble_eq_true rfl) dX6_matrix_13 rfl rfl (fun Hp locs hP hD hS => ?_)
    refine lv_if_eq (tgt := 30) hx hb dX6_matrix_16 (by decide) (fun c_16 => ?_) (fun c_16 => ?_)
    · exact xthr (cls := xIAE) (text := "no such matrix, place or number") hF hto hls hlk hX hC hP hD hS hl.1 (by decide +kernel) (by decide +kernel) (by decide +kernel) (by decide +kernel) (by decide) xot1 xng1 (by decide +kernel) dX6_matrix_30 dX6_matrix_33 dX6_matrix_34 dX6_matrix_36 dX6_matrix_39 (Nat.le_of_ble_eq_true rfl) (Nat.le_of_ble_eq_true rfl) (Nat.le_of_ble_eq_true rfl) (Nat.le_of_ble_eq_true rfl)
    · refine lv_iload_n hx hb dX6_matrix_19 rfl (lv_at hl 3 rfl) ?_
      refine lv_iconst (v := 1) hx hb dX6_matrix_20 (by decide) ?_
      refine lv_sipush (v := 255) hx hb dX6_matrix_21 (by decide) ?_
      refine xSt (rest := []) (As := [.int v, .int 1, .int 255]) (ws1 := []) (st1 := [.int (wi v 1 255)]) hF (c_X6_isWithin l D cs tt v 1 255) gX6_matrix_X6_isWithin rfl (n := 3) (by decide +kernel) rfl ⟨⟨rfl, rfl⟩, Nat.le_of_ble_eq_true rfl, Nat.le_of_ble_eq_true rfl⟩ ⟨Nat.le_of_ble_eq_true rfl, Nat.le_of_ble_eq_true rfl⟩ hX hP hD hS [] (by decide) rfl [] rfl rfl hl.1 rfl (Nat.le_of_ble_eq_true rfl) dX6_matrix_24 rfl rfl (fun Hp locs hP hD hS => ?_)
      refine lv_if_ne (tgt := 40) hx hb dX6_matrix_27 (by decide) (fun c_27 => ?_) (fun c_27 => ?_)
      · exact absurd (hu.symm.trans (show uMatrix a i v = 0 by simp [uMatrix, c_6, c_16, c_27])) (by decide)
      · exact xthr (cls := xIAE) (text := "no such matrix, place or number") hF hto hls hlk hX hC hP hD hS hl.1 (by decide +kernel) (by decide +kernel) (by decide +kernel) (by decide +kernel) (by decide) xot1 xng1 (by decide +kernel) dX6_matrix_30 dX6_matrix_33 dX6_matrix_34 dX6_matrix_36 dX6_matrix_39 (Nat.le_of_ble_eq_true rfl) (Nat.le_of_ble_eq_true rfl) (Nat.le_of_ble_eq_true rfl) (Nat.le_of_ble_eq_true rfl)

set_option maxHeartbeats 4000000 in
set_option maxRecDepth 100000 in
theorem c_X6_begin (l : Launch) (D : va_G) (cs : Nat → ClassId) (tt : Nat → Nat) (dk sf bl mn cm W H md mt ps tu co ha pa mo : Nat) (kd fb fa wh k f b w : Int32) (P V M : Nat → Int32) (hu : uBegin kd k f b = 0) (hw : w = 0 ∨ w = 1) : xM l yX6_begin wsX6_begin ({ frames := 3, cells := 0, slots := 0, locals := 66 } : Room) D cs tt [.ref dk, .int k, .int f, .int b, .int w] [(dk, .inr (6, [.ref sf, .ref bl, .ref mn, .ref cm, .int (nI W), .int (nI H), .int kd, .int (nI md), .int fb])), (bl, .inr (0, [.ref mt, .ref ps, .ref tu, .int fa, .ref co, .ref ha])), (ps, .inl (cs 0, 3, .inl P)), (mn, .inr (2, [.ref pa, .ref mo, .int wh])), (pa, .inl (cs 0, 4, .inl V)), (mo, .inl (cs 0, 2, .inl M))] none [(dk, .inr (6, [.ref sf, .ref bl, .ref mn, .ref cm, .int (nI W), .int (nI H), .int k, .int (nI md), .int 0])), (bl, .inr (0, [.ref mt, .ref ps, .ref tu, .int 1, .ref co, .ref ha])), (ps, .inl (cs 0, 3, .inl (fun _ => 1024))), (mn, .inr (2, [.ref pa, .ref mo, .int w])), (pa, .inl (cs 0, 4, .inl (fun _ => 0))), (mo, .inl (cs 0, 2, .inl (du (16 * f) (16 * b))))] := by
  refine xM.of RX6 rfl (by decide) rfl (Nat.le_of_ble_eq_true rfl) ?_
  intro p e s m below meth c A ls hF hr hlk hX hP hD hS hl
  have hx := hF.1
  have hb := hF.2.1
  have hl : lv_has ls 5 [(0, .ref dk), (1, .int k), (2, .int f), (3, .int b), (4, .int w)] := hl
  refine lv_iload_n hx hb dX6_begin_0 rfl (lv_at hl 1 rfl) ?_
  refine lv_iconst (v := 1) hx hb dX6_begin_1 (by decide) ?_
  refine lv_iconst (v := 3) hx hb dX6_begin_2 (by decide) ?_
  refine xSt (rest := []) (As := [.int k, .int 1, .int 3]) (ws1 := [(dk, .inr (6, [.ref sf, .ref bl, .ref mn, .ref cm, .int (nI W), .int (nI H), .int kd, .int (nI md), .int fb])), (bl, .inr (0, [.ref mt, .ref ps, .ref tu, .int fa, .ref co, .ref ha])), (ps, .inl (cs 0, 3, .inl P)), (mn, .inr (2, [.ref pa, .ref mo, .int wh])), (pa, .inl (cs 0, 4, .inl V)), (mo, .inl (cs 0, 2, .inl M))]) (st1 := [.int (wi k 1 3)]) hF (c_X6_isWithin l D cs tt k 1 3) gX6_begin_X6_isWithin rfl (n := 3) (by decide +kernel) rfl ⟨⟨rfl, rfl⟩, Nat.le_of_ble_eq_true rfl, Nat.le_of_ble_eq_true rfl⟩ ⟨Nat.le_of_ble_eq_true rfl, Nat.le_of_ble_eq_true rfl⟩ hX hP hD hS [] (by decide) rfl [] rfl rfl hl.1 rfl (Nat.le_of_ble_eq_true rfl) dX6_begin_3 rfl rfl (fun Hp locs hP hD hS => ?_)
  refine lv_if_eq (tgt := 29) hx hb dX6_begin_6 (by decide) (fun c_6 => ?_) (fun c_6 => ?_)
  · exact absurd (hu.symm.trans (show uBegin kd k f b = 1 by simp [uBegin, c_6])) (by decide)
  · refine lv_iload_n hx hb dX6_begin_9 rfl (lv_at hl 2 rfl) ?_
    refine lv_iconst (v := 1) hx hb dX6_begin_10 (by decide) ?_
    refine lv_bipush (v := 16) hx hb dX6_begin_11 (by decide) ?_
    refine xSt (rest := []) (As := [.int f, .int 1, .int 16]) (ws1 := [(dk, .inr (6, [.ref sf, .ref bl, .ref mn, .ref cm, .int (nI W), .int (nI H), .int kd, .int (nI md), .int fb])), (bl, .inr (0, [.ref mt, .ref ps, .ref tu, .int fa, .ref co, .ref ha])), (ps, .inl (cs 0, 3, .inl P)), (mn, .inr (2, [.ref pa, .ref mo, .int wh])), (pa, .inl (cs 0, 4, .inl V)), (mo, .inl (cs 0, 2, .inl M))]) (st1 := [.int (wi f 1 16)]) hF (c_X6_isWithin l D cs tt f 1 16) gX6_begin_X6_isWithin rfl (n := 3) (by decide +kernel) rfl ⟨⟨rfl, rfl⟩, Nat.le_of_ble_eq_true rfl, Nat.le_of_ble_eq_true rfl⟩ ⟨Nat.le_of_ble_eq_true rfl, Nat.le_of_ble_eq_true rfl⟩ hX hP hD hS [] (by decide) rfl [] rfl rfl hl.1 rfl (Nat.le_of_ble_eq_true rfl) dX6_begin_13 rfl rfl (fun Hp locs hP hD hS => ?_)
    refine lv_if_eq (tgt := 29) hx hb dX6_begin_16 (by decide) (fun c_16 => ?_) (fun c_16 => ?_)
    · exact absurd (hu.symm.trans (show uBegin kd k f b = 1 by simp [uBegin, c_6, c_16])) (by decide)
    · refine lv_iload_n hx hb dX6_begin_19 rfl (lv_at hl 3 rfl) ?_
      refine lv_iconst (v := 1) hx hb dX6_begin_20 (by decide) ?_
      refine lv_bipush (v := 16) hx hb dX6_begin_21 (by decide) ?_
      refine xSt (rest := []) (As := [.int b, .int 1, .int 16]) (ws1 := [(dk, .inr (6, [.ref sf, .ref bl, .ref mn, .ref cm, .int (nI W), .int (nI H), .int kd, .int (nI md), .int fb])), (bl, .inr (0, [.ref mt, .ref ps, .ref tu, .int fa, .ref co, .ref ha])), (ps, .inl (cs 0, 3, .inl P)), (mn, .inr (2, [.ref pa, .ref mo, .int wh])), (pa, .inl (cs 0, 4, .inl V)), (mo, .inl (cs 0, 2, .inl M))]) (st1 := [.int (wi b 1 16)]) hF (c_X6_isWithin l D cs tt b 1 16) gX6_begin_X6_isWithin rfl (n := 3) (by decide +kernel) rfl ⟨⟨rfl, rfl⟩, Nat.le_of_ble_eq_true rfl, Nat.le_of_ble_eq_true rfl⟩ ⟨Nat.le_of_ble_eq_true rfl, Nat.le_of_ble_eq_true rfl⟩ hX hP hD hS [] (by decide) rfl [] rfl rfl hl.1 rfl (Nat.le_of_ble_eq_true rfl) dX6_begin_23 rfl rfl (fun Hp locs hP hD hS => ?_)
      refine lv_if_ne (tgt := 39) hx hb dX6_begin_26 (by decide) (fun c_26 => ?_) (fun c_26 => ?_)
      · refine lv_aload_n hx hb dX6_begin_39 rfl (lv_at hl 0 rfl) ?_
        refine xget (C := RX6) (T := TX6) (N := 9) hF hX hP (by decide +kernel) 0 6 rfl rfl (by decide) (by decide +kernel) rfl dX6_begin_40 ?_
        refine lv_if_eq (tgt := 56) hx hb dX6_begin_43 (by decide) (fun c_43 => ?_) (fun c_43 => ?_)
        · refine lv_aload_n hx hb dX6_begin_56 rfl (lv_at hl 0 rfl) ?_
          refine lv_iload_n hx hb dX6_begin_57 rfl (lv_at hl 1 rfl) ?_
          refine xputf (C := RX6) (T := TX6) (N := 9) (ws1 := [(dk, .inr (6, [.ref sf, .ref bl, .ref mn, .ref cm, .int (nI W), .int (nI H), .int k, .int (nI md), .int fb])), (bl, .inr (0, [.ref mt, .ref ps, .ref tu, .int fa, .ref co, .ref ha])), (ps, .inl (cs 0, 3, .inl P)), (mn, .inr (2, [.ref pa, .ref mo, .int wh])), (pa, .inl (cs 0, 4, .inl V)), (mo, .inl (cs 0, 2, .inl M))]) hF hX hP hD hS (by decide +kernel) tyX6 tyX6_ok nmX6 0 6 rfl rfl (by decide) (by decide +kernel) rfl (rfl) (rfl) (Nat.le_of_ble_eq_true rfl) dX6_begin_58 rfl (fun Hp locs hP hD hS => ?_)
          refine lv_aload_n hx hb dX6_begin_61 rfl (lv_at hl 0 rfl) ?_
          refine lv_iconst (v := 0) hx hb dX6_begin_62 (by decide) ?_
          refine xputf (C := RX6) (T := TX6) (N := 9) (ws1 := [(dk, .inr (6, [.ref sf, .ref bl, .ref mn, .ref cm, .int (nI W), .int (nI H), .int k, .int (nI md), .int 0])), (bl, .inr (0, [.ref mt, .ref ps, .ref tu, .int fa, .ref co, .ref ha])), (ps, .inl (cs 0, 3, .inl P)), (mn, .inr (2, [.ref pa, .ref mo, .int wh])), (pa, .inl (cs 0, 4, .inl V)), (mo, .inl (cs 0, 2, .inl M))]) hF hX hP hD hS (by decide +kernel) tyX6 tyX6_ok nmX6 0 8 rfl rfl (by decide) (by decide +kernel) rfl (rfl) (rfl) (Nat.le_of_ble_eq_true rfl) dX6_begin_63 rfl (fun Hp locs hP hD hS => ?_)
          refine lv_aload_n hx hb dX6_begin_66 rfl (lv_at hl 0 rfl) ?_
          refine xget (C := RX6) (T := TX6) (N := 9) hF hX hP (by decide +kernel) 0 2 rfl rfl (by decide) (by decide +kernel) rfl dX6_begin_67 ?_
          refine lv_iload_n hx hb dX6_begin_70 rfl (lv_at hl 2 rfl) ?_
          refine lv_iload_n hx hb dX6_begin_71 rfl (lv_at hl 3 rfl) ?_
          refine lv_iload hx hb dX6_begin_72 (lv_at hl 4 rfl) ?_
          refine xV (rest := []) (As := [.int f, .int b, .int w]) (ws1 := [(dk, .inr (6, [.ref sf, .ref bl, .ref mn, .ref cm, .int (nI W), .int (nI H), .int k, .int (nI md), .int 0])), (bl, .inr (0, [.ref mt, .ref ps, .ref tu, .int fa, .ref co, .ref ha])), (ps, .inl (cs 0, 3, .inl P)), (mn, .inr (2, [.ref pa, .ref mo, .int w])), (pa, .inl (cs 0, 4, .inl (fun _ => 0))), (mo, .inl (cs 0, 2, .inl (du (16 * f) (16 * b))))]) (st1 := []) hF (c_X2_prepare l D cs tt mn pa mo wh V M f b w hw) gX6_begin_X2_prepare rfl (n := 3) (by decide +kernel) rfl ⟨⟨rfl, rfl⟩, Nat.le_of_ble_eq_true rfl, Nat.le_of_ble_eq_true rfl⟩ ⟨Nat.le_of_ble_eq_true rfl, Nat.le_of_ble_eq_true rfl⟩ hX hP hD hS [3, 4, 5] (by decide) rfl [mn, pa, mo] rfl rfl (q0 := 3) (ci := 2) rfl rfl rfl hl.1 rfl (Nat.le_of_ble_eq_true rfl) dX6_begin_74 rfl rfl (fun Hp locs hP hD hS => ?_)
          refine lv_aload_n hx hb dX6_begin_77 rfl (lv_at hl 0 rfl) ?_
          refine xget (C := RX6) (T := TX6) (N := 9) hF hX hP (by decide +kernel) 0 1 rfl rfl (by decide) (by decide +kernel) rfl dX6_begin_78 ?_
          refine xV (rest := []) (As := []) (ws1 := [(dk, .inr (6, [.ref sf, .ref bl, .ref mn, .ref cm, .int (nI W), .int (nI H), .int k, .int (nI md), .int 0])), (bl, .inr (0, [.ref mt, .ref ps, .ref tu, .int 1, .ref co, .ref ha])), (ps, .inl (cs 0, 3, .inl (fun _ => 1024))), (mn, .inr (2, [.ref pa, .ref mo, .int w])), (pa, .inl (cs 0, 4, .inl (fun _ => 0))), (mo, .inl (cs 0, 2, .inl (du (16 * f) (16 * b))))]) (st1 := []) hF (c_X0_prepare l D cs tt bl mt ps tu co ha fa P) gX6_begin_X0_prepare rfl (n := 0) (by decide +kernel) rfl ⟨⟨rfl, rfl⟩, Nat.le_of_ble_eq_true rfl, Nat.le_of_ble_eq_true rfl⟩ ⟨Nat.le_of_ble_eq_true rfl, Nat.le_of_ble_eq_true rfl⟩ hX hP hD hS [1, 2] (by decide) rfl [bl, ps] rfl rfl (q0 := 1) (ci := 0) rfl rfl rfl hl.1 rfl (Nat.le_of_ble_eq_true rfl) dX6_begin_81 rfl rfl (fun Hp locs hP hD hS => ?_)
          exact xrv hF hr hlk hP hD hS dX6_begin_84
        · exact absurd (hu.symm.trans (show uBegin kd k f b = 2 by simp [uBegin, c_6, c_16, c_26, c_43])) (by decide)
      · exact absurd (hu.symm.trans (show uBegin kd k f b = 1 by simp [uBegin, c_6, c_16, c_26])) (by decide)

set_option maxHeartbeats 4000000 in
set_option maxRecDepth 100000 in
theorem c_X6_begin_x1 (l : Launch) (D : va_G) (cs : Nat → ClassId) (tt : Nat → Nat) (dk sf bl mn cm W H md : Nat) (kd fb : Int32) (k f b w : Int32) (hls : l.stackTraces = false) (hu : uBegin kd k f b = 1) : xT l yX6_begin wsX6_begin ({ frames := 6, cells := 1, slots := 6, locals := 82 } : Room) D cs tt [.ref dk, .int k, .int f, .int b, .int w] [(dk, .inr (6, [.ref sf, .ref bl, .ref mn, .ref cm, .int (nI W), .int (nI H), .int kd, .int (nI md), .int fb]))] xIAE := by
  refine xT.of RX6 rfl (by decide) rfl (Nat.le_of_ble_eq_true rfl) ?_
  intro p e s m below meth c A ls hF hto hlk hX hC hP hD hS hl
  have hx := hF.1
  have hb := hF.2.1
  have hl : lv_has ls 5 [(0, .ref dk), (1, .int k), (2, .int f), (3, .int b), (4, .int w)] := hl
  refine lv_iload_n hx hb dX6_begin_0 rfl (lv_at hl 1 rfl) ?_
  refine lv_iconst (v := 1) hx hb dX6_begin_1 (by decide) ?_
  refine lv_iconst (v := 3) hx hb dX6_begin_2 (by decide) ?_
  refine xSt (rest := []) (As := [.int k, .int 1, .int 3]) (ws1 := [(dk, .inr (6, [.ref sf, .ref bl, .ref mn, .ref cm, .int (nI W), .int (nI H), .int kd, .int (nI md), .int fb]))]) (st1 := [.int (wi k 1 3)]) hF (c_X6_isWithin l D cs tt k 1 3) gX6_begin_X6_isWithin rfl (n := 3) (by decide +kernel) rfl ⟨⟨rfl, rfl⟩, Nat.le_of_ble_eq_true rfl, Nat.le_of_ble_eq_true rfl⟩ ⟨Nat.le_of_ble_eq_true rfl, Nat.le_of_ble_eq_true rfl⟩ hX hP hD hS [] (by decide) rfl [] rfl rfl hl.1 rfl (Nat.le_of_ble_eq_true rfl) dX6_begin_3 rfl rfl (fun Hp locs hP hD hS => ?_)
  refine lv_if_eq (tgt := 29) hx hb dX6_begin_6 (by decide) (fun c_6 => ?_) (fun c_6 => ?_)
  · exact xthr (cls := xIAE) (text := "no such kind or reach") hF hto hls hlk hX hC hP hD hS hl.1 (by decide +kernel) (by decide +kernel) (by decide +kernel) (by decide +kernel) (by decide) xot1 xng1 (by decide +kernel) dX6_begin_29 dX6_begin_32 dX6_begin_33 dX6_begin_35 dX6_begin_38 (Nat.le_of_ble_eq_true rfl) (Nat.le_of_ble_eq_true rfl) (Nat.le_of_ble_eq_true rfl) (Nat.le_of_ble_eq_true rfl)
  · refine lv_iload_n hx hb dX6_begin_9 rfl (lv_at hl 2 rfl) ?_
    refine lv_iconst (v := 1) hx hb dX6_begin_10 (by decide) ?_
    refine lv_bipush (v := 16) hx hb dX6_begin_11 (by decide) ?_
    refine xSt (rest := []) (As := [.int f, .int 1, .int 16]) (ws1 := [(dk, .inr (6, [.ref sf, .ref bl, .ref mn, .ref cm, .int (nI W), .int (nI H), .int kd, .int (nI md), .int fb]))]) (st1 := [.int (wi f 1 16)]) hF (c_X6_isWithin l D cs tt f 1 16) gX6_begin_X6_isWithin rfl (n := 3) (by decide +kernel) rfl ⟨⟨rfl, rfl⟩, Nat.le_of_ble_eq_true rfl, Nat.le_of_ble_eq_true rfl⟩ ⟨Nat.le_of_ble_eq_true rfl, Nat.le_of_ble_eq_true rfl⟩ hX hP hD hS [] (by decide) rfl [] rfl rfl hl.1 rfl (Nat.le_of_ble_eq_true rfl) dX6_begin_13 rfl rfl (fun Hp locs hP hD hS => ?_)
    refine lv_if_eq (tgt := 29) hx hb dX6_begin_16 (by decide) (fun c_16 => ?_) (fun c_16 => ?_)
    · exact xthr (cls := xIAE) (text := "no such kind or reach") hF hto hls hlk hX hC hP hD hS hl.1 (by decide +kernel) (by decide +kernel) (by decide +kernel) (by decide +kernel) (by decide) xot1 xng1 (by decide +kernel) dX6_begin_29 dX6_begin_32 dX6_begin_33 dX6_begin_35 dX6_begin_38 (Nat.le_of_ble_eq_true rfl) (Nat.le_of_ble_eq_true rfl) (Nat.le_of_ble_eq_true rfl) (Nat.le_of_ble_eq_true rfl)
    · refine lv_iload_n hx hb dX6_begin_19 rfl (lv_at hl 3 rfl) ?_
      refine lv_iconst (v := 1) hx hb dX6_begin_20 (by decide) ?_
      refine lv_bipush (v := 16) hx hb dX6_begin_21 (by decide) ?_
      refine xSt (rest := []) (As := [.int b, .int 1, .int 16]) (ws1 := [(dk, .inr (6, [.ref sf, .ref bl, .ref mn, .ref cm, .int (nI W), .int (nI H), .int kd, .int (nI md), .int fb]))]) (st1 := [.int (wi b 1 16)]) hF (c_X6_isWithin l D cs tt b 1 16) gX6_begin_X6_isWithin rfl (n := 3) (by decide +kernel) rfl ⟨⟨rfl, rfl⟩, Nat.le_of_ble_eq_true rfl, Nat.le_of_ble_eq_true rfl⟩ ⟨Nat.le_of_ble_eq_true rfl, Nat.le_of_ble_eq_true rfl⟩ hX hP hD hS [] (by decide) rfl [] rfl rfl hl.1 rfl (Nat.le_of_ble_eq_true rfl) dX6_begin_23 rfl rfl (fun Hp locs hP hD hS => ?_)
      refine lv_if_ne (tgt := 39) hx hb dX6_begin_26 (by decide) (fun c_26 => ?_) (fun c_26 => ?_)
      · refine lv_aload_n hx hb dX6_begin_39 rfl (lv_at hl 0 rfl) ?_
        refine xget (C := RX6) (T := TX6) (N := 9) hF hX hP (by decide +kernel) 0 6 rfl rfl (by decide) (by decide +kernel) rfl dX6_begin_40 ?_
        refine lv_if_eq (tgt := 56) hx hb dX6_begin_43 (by decide) (fun c_43 => ?_) (fun c_43 => ?_)
        · exact absurd (hu.symm.trans (show uBegin kd k f b = 0 by simp [uBegin, c_6, c_16, c_26, c_43])) (by decide)
        · exact absurd (hu.symm.trans (show uBegin kd k f b = 2 by simp [uBegin, c_6, c_16, c_26, c_43])) (by decide)
      · exact xthr (cls := xIAE) (text := "no such kind or reach") hF hto hls hlk hX hC hP hD hS hl.1 (by decide +kernel) (by decide +kernel) (by decide +kernel) (by decide +kernel) (by decide) xot1 xng1 (by decide +kernel) dX6_begin_29 dX6_begin_32 dX6_begin_33 dX6_begin_35 dX6_begin_38 (Nat.le_of_ble_eq_true rfl) (Nat.le_of_ble_eq_true rfl) (Nat.le_of_ble_eq_true rfl) (Nat.le_of_ble_eq_true rfl)

set_option maxHeartbeats 4000000 in
set_option maxRecDepth 100000 in
theorem c_X6_begin_x2 (l : Launch) (D : va_G) (cs : Nat → ClassId) (tt : Nat → Nat) (dk sf bl mn cm W H md : Nat) (kd fb : Int32) (k f b w : Int32) (hls : l.stackTraces = false) (hu : uBegin kd k f b = 2) : xT l yX6_begin wsX6_begin ({ frames := 6, cells := 1, slots := 6, locals := 82 } : Room) D cs tt [.ref dk, .int k, .int f, .int b, .int w] [(dk, .inr (6, [.ref sf, .ref bl, .ref mn, .ref cm, .int (nI W), .int (nI H), .int kd, .int (nI md), .int fb]))] xISE := by
  refine xT.of RX6 rfl (by decide) rfl (Nat.le_of_ble_eq_true rfl) ?_
  intro p e s m below meth c A ls hF hto hlk hX hC hP hD hS hl
  have hx := hF.1
  have hb := hF.2.1
  have hl : lv_has ls 5 [(0, .ref dk), (1, .int k), (2, .int f), (3, .int b), (4, .int w)] := hl
  refine lv_iload_n hx hb dX6_begin_0 rfl (lv_at hl 1 rfl) ?_
  refine lv_iconst (v := 1) hx hb dX6_begin_1 (by decide) ?_
  refine lv_iconst (v := 3) hx hb dX6_begin_2 (by decide) ?_
  refine xSt (rest := []) (As := [.int k, .int 1, .int 3]) (ws1 := [(dk, .inr (6, [.ref sf, .ref bl, .ref mn, .ref cm, .int (nI W), .int (nI H), .int kd, .int (nI md), .int fb]))]) (st1 := [.int (wi k 1 3)]) hF (c_X6_isWithin l D cs tt k 1 3) gX6_begin_X6_isWithin rfl (n := 3) (by decide +kernel) rfl ⟨⟨rfl, rfl⟩, Nat.le_of_ble_eq_true rfl, Nat.le_of_ble_eq_true rfl⟩ ⟨Nat.le_of_ble_eq_true rfl, Nat.le_of_ble_eq_true rfl⟩ hX hP hD hS [] (by decide) rfl [] rfl rfl hl.1 rfl (Nat.le_of_ble_eq_true rfl) dX6_begin_3 rfl rfl (fun Hp locs hP hD hS => ?_)
  refine lv_if_eq (tgt := 29) hx hb dX6_begin_6 (by decide) (fun c_6 => ?_) (fun c_6 => ?_)
  · exact absurd (hu.symm.trans (show uBegin kd k f b = 1 by simp [uBegin, c_6])) (by decide)
  · refine lv_iload_n hx hb dX6_begin_9 rfl (lv_at hl 2 rfl) ?_
    refine lv_iconst (v := 1) hx hb dX6_begin_10 (by decide) ?_
    refine lv_bipush (v := 16) hx hb dX6_begin_11 (by decide) ?_
    refine xSt (rest := []) (As := [.int f, .int 1, .int 16]) (ws1 := [(dk, .inr (6, [.ref sf, .ref bl, .ref mn, .ref cm, .int (nI W), .int (nI H), .int kd, .int (nI md), .int fb]))]) (st1 := [.int (wi f 1 16)]) hF (c_X6_isWithin l D cs tt f 1 16) gX6_begin_X6_isWithin rfl (n := 3) (by decide +kernel) rfl ⟨⟨rfl, rfl⟩, Nat.le_of_ble_eq_true rfl, Nat.le_of_ble_eq_true rfl⟩ ⟨Nat.le_of_ble_eq_true rfl, Nat.le_of_ble_eq_true rfl⟩ hX hP hD hS [] (by decide) rfl [] rfl rfl hl.1 rfl (Nat.le_of_ble_eq_true rfl) dX6_begin_13 rfl rfl (fun Hp locs hP hD hS => ?_)
    refine lv_if_eq (tgt := 29) hx hb dX6_begin_16 (by decide) (fun c_16 => ?_) (fun c_16 => ?_)
    · exact absurd (hu.symm.trans (show uBegin kd k f b = 1 by simp [uBegin, c_6, c_16])) (by decide)
    · refine lv_iload_n hx hb dX6_begin_19 rfl (lv_at hl 3 rfl) ?_
      refine lv_iconst (v := 1) hx hb dX6_begin_20 (by decide) ?_
      refine lv_bipush (v := 16) hx hb dX6_begin_21 (by decide) ?_
      refine xSt (rest := []) (As := [.int b, .int 1, .int 16]) (ws1 := [(dk, .inr (6, [.ref sf, .ref bl, .ref mn, .ref cm, .int (nI W), .int (nI H), .int kd, .int (nI md), .int fb]))]) (st1 := [.int (wi b 1 16)]) hF (c_X6_isWithin l D cs tt b 1 16) gX6_begin_X6_isWithin rfl (n := 3) (by decide +kernel) rfl ⟨⟨rfl, rfl⟩, Nat.le_of_ble_eq_true rfl, Nat.le_of_ble_eq_true rfl⟩ ⟨Nat.le_of_ble_eq_true rfl, Nat.le_of_ble_eq_true rfl⟩ hX hP hD hS [] (by decide) rfl [] rfl rfl hl.1 rfl (Nat.le_of_ble_eq_true rfl) dX6_begin_23 rfl rfl (fun Hp locs hP hD hS => ?_)
      refine lv_if_ne (tgt := 39) hx hb dX6_begin_26 (by decide) (fun c_26 => ?_) (fun c_26 => ?_)
      · refine lv_aload_n hx hb dX6_begin_39 rfl (lv_at hl 0 rfl) ?_
        refine xget (C := RX6) (T := TX6) (N := 9) hF hX hP (by decide +kernel) 0 6 rfl rfl (by decide) (by decide +kernel) rfl dX6_begin_40 ?_
        refine lv_if_eq (tgt := 56) hx hb dX6_begin_43 (by decide) (fun c_43 => ?_) (fun c_43 => ?_)
        · exact absurd (hu.symm.trans (show uBegin kd k f b = 0 by simp [uBegin, c_6, c_16, c_26, c_43])) (by decide)
        · exact xthr (cls := xISE) (text := "a picture is open") hF hto hls hlk hX hC hP hD hS hl.1 (by decide +kernel) (by decide +kernel) (by decide +kernel) (by decide +kernel) (by decide) xot2 xng2 (by decide +kernel) dX6_begin_46 dX6_begin_49 dX6_begin_50 dX6_begin_52 dX6_begin_55 (Nat.le_of_ble_eq_true rfl) (Nat.le_of_ble_eq_true rfl) (Nat.le_of_ble_eq_true rfl) (Nat.le_of_ble_eq_true rfl)
      · exact absurd (hu.symm.trans (show uBegin kd k f b = 1 by simp [uBegin, c_6, c_16, c_26])) (by decide)

set_option maxHeartbeats 4000000 in
set_option maxRecDepth 100000 in
theorem c_X6_scale (l : Launch) (D : va_G) (cs : Nat → ClassId) (tt : Nat → Nat) (dk sf bl mn cm W H md mt ps tu co ha : Nat) (kd fb fa q : Int32) (hu : uScale kd q = 0) : xM l yX6_scale wsX6_scale ({ frames := 1, cells := 0, slots := 0, locals := 22 } : Room) D cs tt [.ref dk, .int q] [(dk, .inr (6, [.ref sf, .ref bl, .ref mn, .ref cm, .int (nI W), .int (nI H), .int kd, .int (nI md), .int fb])), (bl, .inr (0, [.ref mt, .ref ps, .ref tu, .int fa, .ref co, .ref ha]))] none [(dk, .inr (6, [.ref sf, .ref bl, .ref mn, .ref cm, .int (nI W), .int (nI H), .int kd, .int (nI md), .int fb])), (bl, .inr (0, [.ref mt, .ref ps, .ref tu, .int q, .ref co, .ref ha]))] := by
  refine xM.of RX6 rfl (by decide) rfl (Nat.le_of_ble_eq_true rfl) ?_
  intro p e s m below meth c A ls hF hr hlk hX hP hD hS hl
  have hx := hF.1
  have hb := hF.2.1
  have hl : lv_has ls 2 [(0, .ref dk), (1, .int q)] := hl
  refine lv_iload_n hx hb dX6_scale_0 rfl (lv_at hl 1 rfl) ?_
  refine lv_iconst (v := 1) hx hb dX6_scale_1 (by decide) ?_
  refine lv_bipush (v := 31) hx hb dX6_scale_2 (by decide) ?_
  refine xSt (rest := []) (As := [.int q, .int 1, .int 31]) (ws1 := [(dk, .inr (6, [.ref sf, .ref bl, .ref mn, .ref cm, .int (nI W), .int (nI H), .int kd, .int (nI md), .int fb])), (bl, .inr (0, [.ref mt, .ref ps, .ref tu, .int fa, .ref co, .ref ha]))]) (st1 := [.int (wi q 1 31)]) hF (c_X6_isWithin l D cs tt q 1 31) gX6_scale_X6_isWithin rfl (n := 3) (by decide +kernel) rfl ⟨⟨rfl, rfl⟩, Nat.le_of_ble_eq_true rfl, Nat.le_of_ble_eq_true rfl⟩ ⟨Nat.le_of_ble_eq_true rfl, Nat.le_of_ble_eq_true rfl⟩ hX hP hD hS [] (by decide) rfl [] rfl rfl hl.1 rfl (Nat.le_of_ble_eq_true rfl) dX6_scale_4 rfl rfl (fun Hp locs hP hD hS => ?_)
  refine lv_if_ne (tgt := 20) hx hb dX6_scale_7 (by decide) (fun c_7 => ?_) (fun c_7 => ?_)
  · refine lv_aload_n hx hb dX6_scale_20 rfl (lv_at hl 0 rfl) ?_
    refine xget (C := RX6) (T := TX6) (N := 9) hF hX hP (by decide +kernel) 0 6 rfl rfl (by decide) (by decide +kernel) rfl dX6_scale_21 ?_
    refine lv_if_ne (tgt := 37) hx hb dX6_scale_24 (by decide) (fun c_24 => ?_) (fun c_24 => ?_)
    · refine lv_aload_n hx hb dX6_scale_37 rfl (lv_at hl 0 rfl) ?_
      refine xget (C := RX6) (T := TX6) (N := 9) hF hX hP (by decide +kernel) 0 1 rfl rfl (by decide) (by decide +kernel) rfl dX6_scale_38 ?_
      refine lv_iload_n hx hb dX6_scale_41 rfl (lv_at hl 1 rfl) ?_
      refine xputf (C := RX0) (T := TX0) (N := 6) (ws1 := [(dk, .inr (6, [.ref sf, .ref bl, .ref mn, .ref cm, .int (nI W), .int (nI H), .int kd, .int (nI md), .int fb])), (bl, .inr (0, [.ref mt, .ref ps, .ref tu, .int q, .ref co, .ref ha]))]) hF hX hP hD hS (by decide +kernel) tyX0 tyX0_ok nmX0 1 3 rfl rfl (by decide) (by decide +kernel) rfl (rfl) (rfl) (Nat.le_of_ble_eq_true rfl) dX6_scale_42 rfl (fun Hp locs hP hD hS => ?_)
      exact xrv hF hr hlk hP hD hS dX6_scale_45
    · exact absurd (hu.symm.trans (show uScale kd q = 2 by simp [uScale, c_7, c_24])) (by decide)
  · exact absurd (hu.symm.trans (show uScale kd q = 1 by simp [uScale, c_7])) (by decide)

set_option maxHeartbeats 4000000 in
set_option maxRecDepth 100000 in
theorem c_X6_scale_x1 (l : Launch) (D : va_G) (cs : Nat → ClassId) (tt : Nat → Nat) (dk sf bl mn cm W H md : Nat) (kd fb : Int32) (q : Int32) (hls : l.stackTraces = false) (hu : uScale kd q = 1) : xT l yX6_scale wsX6_scale ({ frames := 6, cells := 1, slots := 6, locals := 82 } : Room) D cs tt [.ref dk, .int q] [(dk, .inr (6, [.ref sf, .ref bl, .ref mn, .ref cm, .int (nI W), .int (nI H), .int kd, .int (nI md), .int fb]))] xIAE := by
  refine xT.of RX6 rfl (by decide) rfl (Nat.le_of_ble_eq_true rfl) ?_
  intro p e s m below meth c A ls hF hto hlk hX hC hP hD hS hl
  have hx := hF.1
  have hb := hF.2.1
  have hl : lv_has ls 2 [(0, .ref dk), (1, .int q)] := hl
  refine lv_iload_n hx hb dX6_scale_0 rfl (lv_at hl 1 rfl) ?_
  refine lv_iconst (v := 1) hx hb dX6_scale_1 (by decide) ?_
  refine lv_bipush (v := 31) hx hb dX6_scale_2 (by decide) ?_
  refine xSt (rest := []) (As := [.int q, .int 1, .int 31]) (ws1 := [(dk, .inr (6, [.ref sf, .ref bl, .ref mn, .ref cm, .int (nI W), .int (nI H), .int kd, .int (nI md), .int fb]))]) (st1 := [.int (wi q 1 31)]) hF (c_X6_isWithin l D cs tt q 1 31) gX6_scale_X6_isWithin rfl (n := 3) (by decide +kernel) rfl ⟨⟨rfl, rfl⟩, Nat.le_of_ble_eq_true rfl, Nat.le_of_ble_eq_true rfl⟩ ⟨Nat.le_of_ble_eq_true rfl, Nat.le_of_ble_eq_true rfl⟩ hX hP hD hS [] (by decide) rfl [] rfl rfl hl.1 rfl (Nat.le_of_ble_eq_true rfl) dX6_scale_4 rfl rfl (fun Hp locs hP hD hS => ?_)
  refine lv_if_ne (tgt := 20) hx hb dX6_scale_7 (by decide) (fun c_7 => ?_) (fun c_7 => ?_)
  · refine lv_aload_n hx hb dX6_scale_20 rfl (lv_at hl 0 rfl) ?_
    refine xget (C := RX6) (T := TX6) (N := 9) hF hX hP (by decide +kernel) 0 6 rfl rfl (by decide) (by decide +kernel) rfl dX6_scale_21 ?_
    refine lv_if_ne (tgt := 37) hx hb dX6_scale_24 (by decide) (fun c_24 => ?_) (fun c_24 => ?_)
    · exact absurd (hu.symm.trans (show uScale kd q = 0 by simp [uScale, c_7, c_24])) (by decide)
    · exact absurd (hu.symm.trans (show uScale kd q = 2 by simp [uScale, c_7, c_24])) (by decide)
  · exact xthr (cls := xIAE) (text := "no such scale") hF hto hls hlk hX hC hP hD hS hl.1 (by decide +kernel) (by decide +kernel) (by decide +kernel) (by decide +kernel) (by decide) xot1 xng1 (by decide +kernel) dX6_scale_10 dX6_scale_13 dX6_scale_14 dX6_scale_16 dX6_scale_19 (Nat.le_of_ble_eq_true rfl) (Nat.le_of_ble_eq_true rfl) (Nat.le_of_ble_eq_true rfl) (Nat.le_of_ble_eq_true rfl)

set_option maxHeartbeats 4000000 in
set_option maxRecDepth 100000 in
theorem c_X6_scale_x2 (l : Launch) (D : va_G) (cs : Nat → ClassId) (tt : Nat → Nat) (dk sf bl mn cm W H md : Nat) (kd fb : Int32) (q : Int32) (hls : l.stackTraces = false) (hu : uScale kd q = 2) : xT l yX6_scale wsX6_scale ({ frames := 6, cells := 1, slots := 6, locals := 82 } : Room) D cs tt [.ref dk, .int q] [(dk, .inr (6, [.ref sf, .ref bl, .ref mn, .ref cm, .int (nI W), .int (nI H), .int kd, .int (nI md), .int fb]))] xISE := by
  refine xT.of RX6 rfl (by decide) rfl (Nat.le_of_ble_eq_true rfl) ?_
  intro p e s m below meth c A ls hF hto hlk hX hC hP hD hS hl
  have hx := hF.1
  have hb := hF.2.1
  have hl : lv_has ls 2 [(0, .ref dk), (1, .int q)] := hl
  refine lv_iload_n hx hb dX6_scale_0 rfl (lv_at hl 1 rfl) ?_
  refine lv_iconst (v := 1) hx hb dX6_scale_1 (by decide) ?_
  refine lv_bipush (v := 31) hx hb dX6_scale_2 (by decide) ?_
  refine xSt (rest := []) (As := [.int q, .int 1, .int 31]) (ws1 := [(dk, .inr (6, [.ref sf, .ref bl, .ref mn, .ref cm, .int (nI W), .int (nI H), .int kd, .int (nI md), .int fb]))]) (st1 := [.int (wi q 1 31)]) hF (c_X6_isWithin l D cs tt q 1 31) gX6_scale_X6_isWithin rfl (n := 3) (by decide +kernel) rfl ⟨⟨rfl, rfl⟩, Nat.le_of_ble_eq_true rfl, Nat.le_of_ble_eq_true rfl⟩ ⟨Nat.le_of_ble_eq_true rfl, Nat.le_of_ble_eq_true rfl⟩ hX hP hD hS [] (by decide) rfl [] rfl rfl hl.1 rfl (Nat.le_of_ble_eq_true rfl) dX6_scale_4 rfl rfl (fun Hp locs hP hD hS => ?_)
  refine lv_if_ne (tgt := 20) hx hb dX6_scale_7 (by decide) (fun c_7 => ?_) (fun c_7 => ?_)
  · refine lv_aload_n hx hb dX6_scale_20 rfl (lv_at hl 0 rfl) ?_
    refine xget (C := RX6) (T := TX6) (N := 9) hF hX hP (by decide +kernel) 0 6 rfl rfl (by decide) (by decide +kernel) rfl dX6_scale_21 ?_
    refine lv_if_ne (tgt := 37) hx hb dX6_scale_24 (by decide) (fun c_24 => ?_) (fun c_24 => ?_)
    · exact absurd (hu.symm.trans (show uScale kd q = 0 by simp [uScale, c_7, c_24])) (by decide)
    · exact xthr (cls := xISE) (text := "no picture is open") hF hto hls hlk hX hC hP hD hS hl.1 (by decide +kernel) (by decide +kernel) (by decide +kernel) (by decide +kernel) (by decide) xot2 xng2 (by decide +kernel) dX6_scale_27 dX6_scale_30 dX6_scale_31 dX6_scale_33 dX6_scale_36 (Nat.le_of_ble_eq_true rfl) (Nat.le_of_ble_eq_true rfl) (Nat.le_of_ble_eq_true rfl) (Nat.le_of_ble_eq_true rfl)
  · exact absurd (hu.symm.trans (show uScale kd q = 1 by simp [uScale, c_7])) (by decide)

set_option maxHeartbeats 4000000 in
set_option maxRecDepth 100000 in
theorem c_X6_itself (l : Launch) (D : va_G) (cs : Nat → ClassId) (tt : Nat → Nat) (dk sf bl mn cm W H md : Nat) (kd fb : Int32) (lv : Nat) (fi di an : Int32) (hu : uItself (sql kd W H md) di = 0) : xM l yX6_itself wsX6_itself ({ frames := 1, cells := 0, slots := 0, locals := 20 } : Room) D cs tt [.ref dk] [(dk, .inr (6, [.ref sf, .ref bl, .ref mn, .ref cm, .int (nI W), .int (nI H), .int kd, .int (nI md), .int fb])), (cm, .inr (1, [.ref lv, .int fi, .int di, .int an]))] none [(dk, .inr (6, [.ref sf, .ref bl, .ref mn, .ref cm, .int (nI W), .int (nI H), .int kd, .int (nI md), .int fb])), (cm, .inr (1, [.ref lv, .int 1, .int di, .int 1]))] := by
  refine xM.of RX6 rfl (by decide) rfl (Nat.le_of_ble_eq_true rfl) ?_
  intro p e s m below meth c A ls hF hr hlk hX hP hD hS hl
  have hx := hF.1
  have hb := hF.2.1
  have hl : lv_has ls 1 [(0, .ref dk)] := hl
  refine lv_aload_n hx hb dX6_itself_0 rfl (lv_at hl 0 rfl) ?_
  refine xV (rest := []) (As := []) (ws1 := [(dk, .inr (6, [.ref sf, .ref bl, .ref mn, .ref cm, .int (nI W), .int (nI H), .int kd, .int (nI md), .int fb])), (cm, .inr (1, [.ref lv, .int fi, .int di, .int an]))]) (st1 := [.int (sql kd W H md)]) hF (c_X6_squaresLeft l D cs tt dk sf bl mn cm W H md kd fb) gX6_itself_X6_squaresLeft rfl (n := 0) (by decide +kernel) rfl ⟨⟨rfl, rfl⟩, Nat.le_of_ble_eq_true rfl, Nat.le_of_ble_eq_true rfl⟩ ⟨Nat.le_of_ble_eq_true rfl, Nat.le_of_ble_eq_true rfl⟩ hX hP hD hS [0] (by decide) rfl [dk] rfl rfl (q0 := 0) (ci := 6) rfl rfl rfl hl.1 rfl (Nat.le_of_ble_eq_true rfl) dX6_itself_1 rfl rfl (fun Hp locs hP hD hS => ?_)
  refine lv_if_eq (tgt := 17) hx hb dX6_itself_4 (by decide) (fun c_4 => ?_) (fun c_4 => ?_)
  · exact absurd (hu.symm.trans (show uItself (sql kd W H md) di = 2 by simp [uItself, c_4])) (by decide)
  · refine lv_aload_n hx hb dX6_itself_7 rfl (lv_at hl 0 rfl) ?_
    refine xget (C := RX6) (T := TX6) (N := 9) hF hX hP (by decide +kernel) 0 3 rfl rfl (by decide) (by decide +kernel) rfl dX6_itself_8 ?_
    refine xget (C := RX1) (T := TX1) (N := 4) hF hX hP (by decide +kernel) 1 2 rfl rfl (by decide) (by decide +kernel) rfl dX6_itself_11 ?_
    refine lv_if_eq (tgt := 27) hx hb dX6_itself_14 (by decide) (fun c_14 => ?_) (fun c_14 => ?_)
    · refine lv_aload_n hx hb dX6_itself_27 rfl (lv_at hl 0 rfl) ?_
      refine xget (C := RX6) (T := TX6) (N := 9) hF hX hP (by decide +kernel) 0 3 rfl rfl (by decide) (by decide +kernel) rfl dX6_itself_28 ?_
      refine lv_iconst (v := 1) hx hb dX6_itself_31 (by decide) ?_
      refine xputf (C := RX1) (T := TX1) (N := 4) (ws1 := [(dk, .inr (6, [.ref sf, .ref bl, .ref mn, .ref cm, .int (nI W), .int (nI H), .int kd, .int (nI md), .int fb])), (cm, .inr (1, [.ref lv, .int 1, .int di, .int an]))]) hF hX hP hD hS (by decide +kernel) tyX1 tyX1_ok nmX1 1 1 rfl rfl (by decide) (by decide +kernel) rfl (rfl) (rfl) (Nat.le_of_ble_eq_true rfl) dX6_itself_32 rfl (fun Hp locs hP hD hS => ?_)
      refine lv_aload_n hx hb dX6_itself_35 rfl (lv_at hl 0 rfl) ?_
      refine xget (C := RX6) (T := TX6) (N := 9) hF hX hP (by decide +kernel) 0 3 rfl rfl (by decide) (by decide +kernel) rfl dX6_itself_36 ?_
      refine lv_iconst (v := 1) hx hb dX6_itself_39 (by decide) ?_
      refine xputf (C := RX1) (T := TX1) (N := 4) (ws1 := [(dk, .inr (6, [.ref sf, .ref bl, .ref mn, .ref cm, .int (nI W), .int (nI H), .int kd, .int (nI md), .int fb])), (cm, .inr (1, [.ref lv, .int 1, .int di, .int 1]))]) hF hX hP hD hS (by decide +kernel) tyX1 tyX1_ok nmX1 1 3 rfl rfl (by decide) (by decide +kernel) rfl (rfl) (rfl) (Nat.le_of_ble_eq_true rfl) dX6_itself_40 rfl (fun Hp locs hP hD hS => ?_)
      exact xrv hF hr hlk hP hD hS dX6_itself_43
    · exact absurd (hu.symm.trans (show uItself (sql kd W H md) di = 2 by simp [uItself, c_4, c_14])) (by decide)

set_option maxHeartbeats 4000000 in
set_option maxRecDepth 100000 in
theorem c_X6_itself_x (l : Launch) (D : va_G) (cs : Nat → ClassId) (tt : Nat → Nat) (dk sf bl mn cm W H md : Nat) (kd fb : Int32) (lv : Nat) (fi di an : Int32) (hls : l.stackTraces = false) (hu : uItself (sql kd W H md) di = 2) : xT l yX6_itself wsX6_itself ({ frames := 6, cells := 1, slots := 6, locals := 82 } : Room) D cs tt [.ref dk] [(dk, .inr (6, [.ref sf, .ref bl, .ref mn, .ref cm, .int (nI W), .int (nI H), .int kd, .int (nI md), .int fb])), (cm, .inr (1, [.ref lv, .int fi, .int di, .int an]))] xISE := by
  refine xT.of RX6 rfl (by decide) rfl (Nat.le_of_ble_eq_true rfl) ?_
  intro p e s m below meth c A ls hF hto hlk hX hC hP hD hS hl
  have hx := hF.1
  have hb := hF.2.1
  have hl : lv_has ls 1 [(0, .ref dk)] := hl
  refine lv_aload_n hx hb dX6_itself_0 rfl (lv_at hl 0 rfl) ?_
  refine xV (rest := []) (As := []) (ws1 := [(dk, .inr (6, [.ref sf, .ref bl, .ref mn, .ref cm, .int (nI W), .int (nI H), .int kd, .int (nI md), .int fb])), (cm, .inr (1, [.ref lv, .int fi, .int di, .int an]))]) (st1 := [.int (sql kd W H md)]) hF (c_X6_squaresLeft l D cs tt dk sf bl mn cm W H md kd fb) gX6_itself_X6_squaresLeft rfl (n := 0) (by decide +kernel) rfl ⟨⟨rfl, rfl⟩, Nat.le_of_ble_eq_true rfl, Nat.le_of_ble_eq_true rfl⟩ ⟨Nat.le_of_ble_eq_true rfl, Nat.le_of_ble_eq_true rfl⟩ hX hP hD hS [0] (by decide) rfl [dk] rfl rfl (q0 := 0) (ci := 6) rfl rfl rfl hl.1 rfl (Nat.le_of_ble_eq_true rfl) dX6_itself_1 rfl rfl (fun Hp locs hP hD hS => ?_)
  refine lv_if_eq (tgt := 17) hx hb dX6_itself_4 (by decide) (fun c_4 => ?_) (fun c_4 => ?_)
  · exact xthr (cls := xISE) (text := "no square to come, or a vector was told for it") hF hto hls hlk hX hC hP hD hS hl.1 (by decide +kernel) (by decide +kernel) (by decide +kernel) (by decide +kernel) (by decide) xot2 xng2 (by decide +kernel) dX6_itself_17 dX6_itself_20 dX6_itself_21 dX6_itself_23 dX6_itself_26 (Nat.le_of_ble_eq_true rfl) (Nat.le_of_ble_eq_true rfl) (Nat.le_of_ble_eq_true rfl) (Nat.le_of_ble_eq_true rfl)
  · refine lv_aload_n hx hb dX6_itself_7 rfl (lv_at hl 0 rfl) ?_
    refine xget (C := RX6) (T := TX6) (N := 9) hF hX hP (by decide +kernel) 0 3 rfl rfl (by decide) (by decide +kernel) rfl dX6_itself_8 ?_
    refine xget (C := RX1) (T := TX1) (N := 4) hF hX hP (by decide +kernel) 1 2 rfl rfl (by decide) (by decide +kernel) rfl dX6_itself_11 ?_
    refine lv_if_eq (tgt := 27) hx hb dX6_itself_14 (by decide) (fun c_14 => ?_) (fun c_14 => ?_)
    · exact absurd (hu.symm.trans (show uItself (sql kd W H md) di = 0 by simp [uItself, c_4, c_14])) (by decide)
    · exact xthr (cls := xISE) (text := "no square to come, or a vector was told for it") hF hto hls hlk hX hC hP hD hS hl.1 (by decide +kernel) (by decide +kernel) (by decide +kernel) (by decide +kernel) (by decide) xot2 xng2 (by decide +kernel) dX6_itself_17 dX6_itself_20 dX6_itself_21 dX6_itself_23 dX6_itself_26 (Nat.le_of_ble_eq_true rfl) (Nat.le_of_ble_eq_true rfl) (Nat.le_of_ble_eq_true rfl) (Nat.le_of_ble_eq_true rfl)

set_option maxHeartbeats 4000000 in
set_option maxRecDepth 100000 in
theorem c_X6_vector_x0 (l : Launch) (D : va_G) (cs : Nat → ClassId) (tt : Nat → Nat) (dk : Nat) (d dx dy : Int32) (hls : l.stackTraces = false) (hu : uVec0 d = 1) : xT l yX6_vector wsX6_vector ({ frames := 6, cells := 1, slots := 6, locals := 82 } : Room) D cs tt [.ref dk, .int d, .int dx, .int dy] [] xIAE := by
  refine xT.of RX6 rfl (by decide) rfl (Nat.le_of_ble_eq_true rfl) ?_
  intro p e s m below meth c A ls hF hto hlk hX hC hP hD hS hl
  have hx := hF.1
  have hb := hF.2.1
  have hl : lv_has ls 4 [(0, .ref dk), (1, .int d), (2, .int dx), (3, .int dy)] := hl
  refine lv_iload_n hx hb dX6_vector_0 rfl (lv_at hl 1 rfl) ?_
  refine lv_iconst (v := 0) hx hb dX6_vector_1 (by decide) ?_
  refine lv_iconst (v := 1) hx hb dX6_vector_2 (by decide) ?_
  refine xSt (rest := []) (As := [.int d, .int 0, .int 1]) (ws1 := []) (st1 := [.int (wi d 0 1)]) hF (c_X6_isWithin l D cs tt d 0 1) gX6_vector_X6_isWithin rfl (n := 3) (by decide +kernel) rfl ⟨⟨rfl, rfl⟩, Nat.le_of_ble_eq_true rfl, Nat.le_of_ble_eq_true rfl⟩ ⟨Nat.le_of_ble_eq_true rfl, Nat.le_of_ble_eq_true rfl⟩ hX hP hD hS [] (by decide) rfl [] rfl rfl hl.1 rfl (Nat.le_of_ble_eq_true rfl) dX6_vector_3 rfl rfl (fun Hp locs hP hD hS => ?_)
  refine lv_if_eq (tgt := 33) hx hb dX6_vector_6 (by decide) (fun c_6 => ?_) (fun c_6 => ?_)
  · exact xthr (cls := xIAE) (text := "no such direction, or out of reach") hF hto hls hlk hX hC hP hD hS hl.1 (by decide +kernel) (by decide +kernel) (by decide +kernel) (by decide +kernel) (by decide) xot1 xng1 (by decide +kernel) dX6_vector_33 dX6_vector_36 dX6_vector_37 dX6_vector_39 dX6_vector_42 (Nat.le_of_ble_eq_true rfl) (Nat.le_of_ble_eq_true rfl) (Nat.le_of_ble_eq_true rfl) (Nat.le_of_ble_eq_true rfl)
  · exact absurd (hu.symm.trans (show uVec0 d = 0 by simp [uVec0, c_6])) (by decide)

set_option maxHeartbeats 4000000 in
set_option maxRecDepth 100000 in
theorem c_X6_vector0 (l : Launch) (D : va_G) (cs : Nat → ClassId) (tt : Nat → Nat) (dk sf bl mn cm W H md : Nat) (kd fb : Int32) (lv pa mo : Nat) (fi di an wh dx dy : Int32) (V M : Nat → Int32) (hu : uVec (wi dx (-(M 0)) (M 0)) (wi dy (-(M 0)) (M 0)) (sql kd W H md) fi (khs kd 0) = 0) : xM l yX6_vector wsX6_vector ({ frames := 2, cells := 0, slots := 0, locals := 45 } : Room) D cs tt [.ref dk, .int 0, .int dx, .int dy] [(dk, .inr (6, [.ref sf, .ref bl, .ref mn, .ref cm, .int (nI W), .int (nI H), .int kd, .int (nI md), .int fb])), (mn, .inr (2, [.ref pa, .ref mo, .int wh])), (pa, .inl (cs 0, 4, .inl V)), (mo, .inl (cs 0, 2, .inl M)), (cm, .inr (1, [.ref lv, .int fi, .int di, .int an]))] none [(dk, .inr (6, [.ref sf, .ref bl, .ref mn, .ref cm, .int (nI W), .int (nI H), .int kd, .int (nI md), .int fb])), (mn, .inr (2, [.ref pa, .ref mo, .int wh])), (pa, .inl (cs 0, 4, .inl (mov V 0 (M 0) dx dy))), (mo, .inl (cs 0, 2, .inl M)), (cm, .inr (1, [.ref lv, .int fi, .int (di ||| 1), .int 1]))] := by
  refine xM.of RX6 rfl (by decide) rfl (Nat.le_of_ble_eq_true rfl) ?_
  intro p e s m below meth c A ls hF hr hlk hX hP hD hS hl
  have hx := hF.1
  have hb := hF.2.1
  have hl : lv_has ls 4 [(0, .ref dk), (1, .int 0), (2, .int dx), (3, .int dy)] := hl
  refine lv_iload_n hx hb dX6_vector_0 rfl (lv_at hl 1 rfl) ?_
  refine lv_iconst (v := 0) hx hb dX6_vector_1 (by decide) ?_
  refine lv_iconst (v := 1) hx hb dX6_vector_2 (by decide) ?_
  refine xSt (rest := []) (As := [.int 0, .int 0, .int 1]) (ws1 := [(dk, .inr (6, [.ref sf, .ref bl, .ref mn, .ref cm, .int (nI W), .int (nI H), .int kd, .int (nI md), .int fb])), (mn, .inr (2, [.ref pa, .ref mo, .int wh])), (pa, .inl (cs 0, 4, .inl V)), (mo, .inl (cs 0, 2, .inl M)), (cm, .inr (1, [.ref lv, .int fi, .int di, .int an]))]) (st1 := [.int (wi 0 0 1)]) hF (c_X6_isWithin l D cs tt 0 0 1) gX6_vector_X6_isWithin rfl (n := 3) (by decide +kernel) rfl ⟨⟨rfl, rfl⟩, Nat.le_of_ble_eq_true rfl, Nat.le_of_ble_eq_true rfl⟩ ⟨Nat.le_of_ble_eq_true rfl, Nat.le_of_ble_eq_true rfl⟩ hX hP hD hS [] (by decide) rfl [] rfl rfl hl.1 rfl (Nat.le_of_ble_eq_true rfl) dX6_vector_3 rfl rfl (fun Hp locs hP hD hS => ?_)
  refine lv_if_eq (tgt := 33) hx hb dX6_vector_6 (by decide) (fun c_6 => absurd c_6 (by decide)) (fun _ => ?_)
  refine lv_aload_n hx hb dX6_vector_9 rfl (lv_at hl 0 rfl) ?_
  refine xget (C := RX6) (T := TX6) (N := 9) hF hX hP (by decide +kernel) 0 2 rfl rfl (by decide) (by decide +kernel) rfl dX6_vector_10 ?_
  refine lv_iload_n hx hb dX6_vector_13 rfl (lv_at hl 1 rfl) ?_
  refine lv_iload_n hx hb dX6_vector_14 rfl (lv_at hl 2 rfl) ?_
  refine xV (rest := []) (As := [.int 0, .int dx]) (ws1 := [(dk, .inr (6, [.ref sf, .ref bl, .ref mn, .ref cm, .int (nI W), .int (nI H), .int kd, .int (nI md), .int fb])), (mn, .inr (2, [.ref pa, .ref mo, .int wh])), (pa, .inl (cs 0, 4, .inl V)), (mo, .inl (cs 0, 2, .inl M)), (cm, .inr (1, [.ref lv, .int fi, .int di, .int an]))]) (st1 := [.int (wi dx (-(M 0)) (M 0))]) hF (c_X2_reaches l D cs tt mn pa mo wh V M 0 dx (by decide)) gX6_vector_X2_reaches rfl (n := 2) (by decide +kernel) rfl ⟨⟨rfl, rfl⟩, Nat.le_of_ble_eq_true rfl, Nat.le_of_ble_eq_true rfl⟩ ⟨Nat.le_of_ble_eq_true rfl, Nat.le_of_ble_eq_true rfl⟩ hX hP hD hS [1, 3] (by decide) rfl [mn, mo] rfl rfl (q0 := 1) (ci := 2) rfl rfl rfl hl.1 rfl (Nat.le_of_ble_eq_true rfl) dX6_vector_15 rfl rfl (fun Hp locs hP hD hS => ?_)
  refine lv_if_eq (tgt := 33) hx hb dX6_vector_18 (by decide) (fun c_18 => ?_) (fun c_18 => ?_)
  · exact absurd (hu.symm.trans (show uVec (wi dx (-(M 0)) (M 0)) (wi dy (-(M 0)) (M 0)) (sql kd W H md) fi (khs kd 0) = 1 by simp [uVec, c_18])) (by decide)
  · refine lv_aload_n hx hb dX6_vector_21 rfl (lv_at hl 0 rfl) ?_
    refine xget (C := RX6) (T := TX6) (N := 9) hF hX hP (by decide +kernel) 0 2 rfl rfl (by decide) (by decide +kernel) rfl dX6_vector_22 ?_
    refine lv_iload_n hx hb dX6_vector_25 rfl (lv_at hl 1 rfl) ?_
    refine lv_iload_n hx hb dX6_vector_26 rfl (lv_at hl 3 rfl) ?_
    refine xV (rest := []) (As := [.int 0, .int dy]) (ws1 := [(dk, .inr (6, [.ref sf, .ref bl, .ref mn, .ref cm, .int (nI W), .int (nI H), .int kd, .int (nI md), .int fb])), (mn, .inr (2, [.ref pa, .ref mo, .int wh])), (pa, .inl (cs 0, 4, .inl V)), (mo, .inl (cs 0, 2, .inl M)), (cm, .inr (1, [.ref lv, .int fi, .int di, .int an]))]) (st1 := [.int (wi dy (-(M 0)) (M 0))]) hF (c_X2_reaches l D cs tt mn pa mo wh V M 0 dy (by decide)) gX6_vector_X2_reaches rfl (n := 2) (by decide +kernel) rfl ⟨⟨rfl, rfl⟩, Nat.le_of_ble_eq_true rfl, Nat.le_of_ble_eq_true rfl⟩ ⟨Nat.le_of_ble_eq_true rfl, Nat.le_of_ble_eq_true rfl⟩ hX hP hD hS [1, 3] (by decide) rfl [mn, mo] rfl rfl (q0 := 1) (ci := 2) rfl rfl rfl hl.1 rfl (Nat.le_of_ble_eq_true rfl) dX6_vector_27 rfl rfl (fun Hp locs hP hD hS => ?_)
    refine lv_if_ne (tgt := 43) hx hb dX6_vector_30 (by decide) (fun c_30 => ?_) (fun c_30 => ?_)
    · refine lv_aload_n hx hb dX6_vector_43 rfl (lv_at hl 0 rfl) ?_
      refine xV (rest := []) (As := []) (ws1 := [(dk, .inr (6, [.ref sf, .ref bl, .ref mn, .ref cm, .int (nI W), .int (nI H), .int kd, .int (nI md), .int fb])), (mn, .inr (2, [.ref pa, .ref mo, .int wh])), (pa, .inl (cs 0, 4, .inl V)), (mo, .inl (cs 0, 2, .inl M)), (cm, .inr (1, [.ref lv, .int fi, .int di, .int an]))]) (st1 := [.int (sql kd W H md)]) hF (c_X6_squaresLeft l D cs tt dk sf bl mn cm W H md kd fb) gX6_vector_X6_squaresLeft rfl (n := 0) (by decide +kernel) rfl ⟨⟨rfl, rfl⟩, Nat.le_of_ble_eq_true rfl, Nat.le_of_ble_eq_true rfl⟩ ⟨Nat.le_of_ble_eq_true rfl, Nat.le_of_ble_eq_true rfl⟩ hX hP hD hS [0] (by decide) rfl [dk] rfl rfl (q0 := 0) (ci := 6) rfl rfl rfl hl.1 rfl (Nat.le_of_ble_eq_true rfl) dX6_vector_44 rfl rfl (fun Hp locs hP hD hS => ?_)
      refine lv_if_eq (tgt := 68) hx hb dX6_vector_47 (by decide) (fun c_47 => ?_) (fun c_47 => ?_)
      · exact absurd (hu.symm.trans (show uVec (wi dx (-(M 0)) (M 0)) (wi dy (-(M 0)) (M 0)) (sql kd W H md) fi (khs kd 0) = 2 by simp [uVec, c_18, c_30, c_47])) (by decide)
      · refine lv_aload_n hx hb dX6_vector_50 rfl (lv_at hl 0 rfl) ?_
        refine xget (C := RX6) (T := TX6) (N := 9) hF hX hP (by decide +kernel) 0 3 rfl rfl (by decide) (by decide +kernel) rfl dX6_vector_51 ?_
        refine xget (C := RX1) (T := TX1) (N := 4) hF hX hP (by decide +kernel) 4 1 rfl rfl (by decide) (by decide +kernel) rfl dX6_vector_54 ?_
        refine lv_if_ne (tgt := 68) hx hb dX6_vector_57 (by decide) (fun c_57 => ?_) (fun c_57 => ?_)
        · exact absurd (hu.symm.trans (show uVec (wi dx (-(M 0)) (M 0)) (wi dy (-(M 0)) (M 0)) (sql kd W H md) fi (khs kd 0) = 2 by simp [uVec, c_18, c_30, c_47, c_57])) (by decide)
        · refine lv_aload_n hx hb dX6_vector_60 rfl (lv_at hl 0 rfl) ?_
          refine lv_iload_n hx hb dX6_vector_61 rfl (lv_at hl 1 rfl) ?_
          refine xV (rest := []) (As := [.int 0]) (ws1 := [(dk, .inr (6, [.ref sf, .ref bl, .ref mn, .ref cm, .int (nI W), .int (nI H), .int kd, .int (nI md), .int fb])), (mn, .inr (2, [.ref pa, .ref mo, .int wh])), (pa, .inl (cs 0, 4, .inl V)), (mo, .inl (cs 0, 2, .inl M)), (cm, .inr (1, [.ref lv, .int fi, .int di, .int an]))]) (st1 := [.int (khs kd 0)]) hF (c_X6_kindHas l D cs tt dk sf bl mn cm W H md kd fb 0) gX6_vector_X6_kindHas rfl (n := 1) (by decide +kernel) rfl ⟨⟨rfl, rfl⟩, Nat.le_of_ble_eq_true rfl, Nat.le_of_ble_eq_true rfl⟩ ⟨Nat.le_of_ble_eq_true rfl, Nat.le_of_ble_eq_true rfl⟩ hX hP hD hS [0] (by decide) rfl [dk] rfl rfl (q0 := 0) (ci := 6) rfl rfl rfl hl.1 rfl (Nat.le_of_ble_eq_true rfl) dX6_vector_62 rfl rfl (fun Hp locs hP hD hS => ?_)
          refine lv_if_ne (tgt := 78) hx hb dX6_vector_65 (by decide) (fun c_65 => ?_) (fun c_65 => ?_)
          · refine lv_aload_n hx hb dX6_vector_78 rfl (lv_at hl 0 rfl) ?_
            refine xget (C := RX6) (T := TX6) (N := 9) hF hX hP (by decide +kernel) 0 2 rfl rfl (by decide) (by decide +kernel) rfl dX6_vector_79 ?_
            refine lv_iload_n hx hb dX6_vector_82 rfl (lv_at hl 1 rfl) ?_
            refine lv_iload_n hx hb dX6_vector_83 rfl (lv_at hl 2 rfl) ?_
            refine lv_iload_n hx hb dX6_vector_84 rfl (lv_at hl 3 rfl) ?_
            refine xV (rest := []) (As := [.int 0, .int dx, .int dy]) (ws1 := [(dk, .inr (6, [.ref sf, .ref bl, .ref mn, .ref cm, .int (nI W), .int (nI H), .int kd, .int (nI md), .int fb])), (mn, .inr (2, [.ref pa, .ref mo, .int wh])), (pa, .inl (cs 0, 4, .inl (mov V 0 (M 0) dx dy))), (mo, .inl (cs 0, 2, .inl M)), (cm, .inr (1, [.ref lv, .int fi, .int di, .int an]))]) (st1 := []) hF (c_X2_move l D cs tt mn pa mo wh V M 0 dx dy (by decide)) gX6_vector_X2_move rfl (n := 3) (by decide +kernel) rfl ⟨⟨rfl, rfl⟩, Nat.le_of_ble_eq_true rfl, Nat.le_of_ble_eq_true rfl⟩ ⟨Nat.le_of_ble_eq_true rfl, Nat.le_of_ble_eq_true rfl⟩ hX hP hD hS [1, 2, 3] (by decide) rfl [mn, pa, mo] rfl rfl (q0 := 1) (ci := 2) rfl rfl rfl hl.1 rfl (Nat.le_of_ble_eq_true rfl) dX6_vector_85 rfl rfl (fun Hp locs hP hD hS => ?_)
            refine lv_aload_n hx hb dX6_vector_88 rfl (lv_at hl 0 rfl) ?_
            refine xget (C := RX6) (T := TX6) (N := 9) hF hX hP (by decide +kernel) 0 3 rfl rfl (by decide) (by decide +kernel) rfl dX6_vector_89 ?_
            refine lv_dup hx hb dX6_vector_92 rfl ?_
            refine xget (C := RX1) (T := TX1) (N := 4) hF hX hP (by decide +kernel) 4 2 rfl rfl (by decide) (by decide +kernel) rfl dX6_vector_93 ?_
            refine lv_iload_n hx hb dX6_vector_96 rfl (lv_at hl 1 rfl) ?_
            refine lv_if_ne (tgt := 104) hx hb dX6_vector_97 (by decide) (fun c_97 => absurd (by decide) c_97) (fun _ => ?_)
            refine lv_iconst (v := 1) hx hb dX6_vector_100 (by decide) ?_
            refine lv_goto (tgt := 105) hx hb dX6_vector_101 (by decide) ?_
            refine lv_ior hx hb dX6_vector_105 ?_
            refine xputf (C := RX1) (T := TX1) (N := 4) (ws1 := [(dk, .inr (6, [.ref sf, .ref bl, .ref mn, .ref cm, .int (nI W), .int (nI H), .int kd, .int (nI md), .int fb])), (mn, .inr (2, [.ref pa, .ref mo, .int wh])), (pa, .inl (cs 0, 4, .inl (mov V 0 (M 0) dx dy))), (mo, .inl (cs 0, 2, .inl M)), (cm, .inr (1, [.ref lv, .int fi, .int (di ||| 1), .int an]))]) hF hX hP hD hS (by decide +kernel) tyX1 tyX1_ok nmX1 4 2 rfl rfl (by decide) (by decide +kernel) rfl (rfl) (rfl) (Nat.le_of_ble_eq_true rfl) dX6_vector_106 rfl (fun Hp locs hP hD hS => ?_)
            refine lv_aload_n hx hb dX6_vector_109 rfl (lv_at hl 0 rfl) ?_
            refine xget (C := RX6) (T := TX6) (N := 9) hF hX hP (by decide +kernel) 0 3 rfl rfl (by decide) (by decide +kernel) rfl dX6_vector_110 ?_
            refine lv_iconst (v := 1) hx hb dX6_vector_113 (by decide) ?_
            refine xputf (C := RX1) (T := TX1) (N := 4) (ws1 := [(dk, .inr (6, [.ref sf, .ref bl, .ref mn, .ref cm, .int (nI W), .int (nI H), .int kd, .int (nI md), .int fb])), (mn, .inr (2, [.ref pa, .ref mo, .int wh])), (pa, .inl (cs 0, 4, .inl (mov V 0 (M 0) dx dy))), (mo, .inl (cs 0, 2, .inl M)), (cm, .inr (1, [.ref lv, .int fi, .int (di ||| 1), .int 1]))]) hF hX hP hD hS (by decide +kernel) tyX1 tyX1_ok nmX1 4 3 rfl rfl (by decide) (by decide +kernel) rfl (rfl) (rfl) (Nat.le_of_ble_eq_true rfl) dX6_vector_114 rfl (fun Hp locs hP hD hS => ?_)
            exact xrv hF hr hlk hP hD hS dX6_vector_117
          · exact absurd (hu.symm.trans (show uVec (wi dx (-(M 0)) (M 0)) (wi dy (-(M 0)) (M 0)) (sql kd W H md) fi (khs kd 0) = 2 by simp [uVec, c_18, c_30, c_47, c_57, c_65])) (by decide)
    · exact absurd (hu.symm.trans (show uVec (wi dx (-(M 0)) (M 0)) (wi dy (-(M 0)) (M 0)) (sql kd W H md) fi (khs kd 0) = 1 by simp [uVec, c_18, c_30])) (by decide)

set_option maxHeartbeats 4000000 in
set_option maxRecDepth 100000 in
theorem c_X6_vector0_x1 (l : Launch) (D : va_G) (cs : Nat → ClassId) (tt : Nat → Nat) (dk sf bl mn cm W H md : Nat) (kd fb : Int32) (lv pa mo : Nat) (fi di an wh dx dy : Int32) (V M : Nat → Int32) (hls : l.stackTraces = false) (hu : uVec (wi dx (-(M 0)) (M 0)) (wi dy (-(M 0)) (M 0)) (sql kd W H md) fi (khs kd 0) = 1) : xT l yX6_vector wsX6_vector ({ frames := 6, cells := 1, slots := 6, locals := 82 } : Room) D cs tt [.ref dk, .int 0, .int dx, .int dy] [(dk, .inr (6, [.ref sf, .ref bl, .ref mn, .ref cm, .int (nI W), .int (nI H), .int kd, .int (nI md), .int fb])), (mn, .inr (2, [.ref pa, .ref mo, .int wh])), (pa, .inl (cs 0, 4, .inl V)), (mo, .inl (cs 0, 2, .inl M)), (cm, .inr (1, [.ref lv, .int fi, .int di, .int an]))] xIAE := by
  refine xT.of RX6 rfl (by decide) rfl (Nat.le_of_ble_eq_true rfl) ?_
  intro p e s m below meth c A ls hF hto hlk hX hC hP hD hS hl
  have hx := hF.1
  have hb := hF.2.1
  have hl : lv_has ls 4 [(0, .ref dk), (1, .int 0), (2, .int dx), (3, .int dy)] := hl
  refine lv_iload_n hx hb dX6_vector_0 rfl (lv_at hl 1 rfl) ?_
  refine lv_iconst (v := 0) hx hb dX6_vector_1 (by decide) ?_
  refine lv_iconst (v := 1) hx hb dX6_vector_2 (by decide) ?_
  refine xSt (rest := []) (As := [.int 0, .int 0, .int 1]) (ws1 := [(dk, .inr (6, [.ref sf, .ref bl, .ref mn, .ref cm, .int (nI W), .int (nI H), .int kd, .int (nI md), .int fb])), (mn, .inr (2, [.ref pa, .ref mo, .int wh])), (pa, .inl (cs 0, 4, .inl V)), (mo, .inl (cs 0, 2, .inl M)), (cm, .inr (1, [.ref lv, .int fi, .int di, .int an]))]) (st1 := [.int (wi 0 0 1)]) hF (c_X6_isWithin l D cs tt 0 0 1) gX6_vector_X6_isWithin rfl (n := 3) (by decide +kernel) rfl ⟨⟨rfl, rfl⟩, Nat.le_of_ble_eq_true rfl, Nat.le_of_ble_eq_true rfl⟩ ⟨Nat.le_of_ble_eq_true rfl, Nat.le_of_ble_eq_true rfl⟩ hX hP hD hS [] (by decide) rfl [] rfl rfl hl.1 rfl (Nat.le_of_ble_eq_true rfl) dX6_vector_3 rfl rfl (fun Hp locs hP hD hS => ?_)
  refine lv_if_eq (tgt := 33) hx hb dX6_vector_6 (by decide) (fun c_6 => absurd c_6 (by decide)) (fun _ => ?_)
  refine lv_aload_n hx hb dX6_vector_9 rfl (lv_at hl 0 rfl) ?_
  refine xget (C := RX6) (T := TX6) (N := 9) hF hX hP (by decide +kernel) 0 2 rfl rfl (by decide) (by decide +kernel) rfl dX6_vector_10 ?_
  refine lv_iload_n hx hb dX6_vector_13 rfl (lv_at hl 1 rfl) ?_
  refine lv_iload_n hx hb dX6_vector_14 rfl (lv_at hl 2 rfl) ?_
  refine xV (rest := []) (As := [.int 0, .int dx]) (ws1 := [(dk, .inr (6, [.ref sf, .ref bl, .ref mn, .ref cm, .int (nI W), .int (nI H), .int kd, .int (nI md), .int fb])), (mn, .inr (2, [.ref pa, .ref mo, .int wh])), (pa, .inl (cs 0, 4, .inl V)), (mo, .inl (cs 0, 2, .inl M)), (cm, .inr (1, [.ref lv, .int fi, .int di, .int an]))]) (st1 := [.int (wi dx (-(M 0)) (M 0))]) hF (c_X2_reaches l D cs tt mn pa mo wh V M 0 dx (by decide)) gX6_vector_X2_reaches rfl (n := 2) (by decide +kernel) rfl ⟨⟨rfl, rfl⟩, Nat.le_of_ble_eq_true rfl, Nat.le_of_ble_eq_true rfl⟩ ⟨Nat.le_of_ble_eq_true rfl, Nat.le_of_ble_eq_true rfl⟩ hX hP hD hS [1, 3] (by decide) rfl [mn, mo] rfl rfl (q0 := 1) (ci := 2) rfl rfl rfl hl.1 rfl (Nat.le_of_ble_eq_true rfl) dX6_vector_15 rfl rfl (fun Hp locs hP hD hS => ?_)
  refine lv_if_eq (tgt := 33) hx hb dX6_vector_18 (by decide) (fun c_18 => ?_) (fun c_18 => ?_)
  · exact xthr (cls := xIAE) (text := "no such direction, or out of reach") hF hto hls hlk hX hC hP hD hS hl.1 (by decide +kernel) (by decide +kernel) (by decide +kernel) (by decide +kernel) (by decide) xot1 xng1 (by decide +kernel) dX6_vector_33 dX6_vector_36 dX6_vector_37 dX6_vector_39 dX6_vector_42 (Nat.le_of_ble_eq_true rfl) (Nat.le_of_ble_eq_true rfl) (Nat.le_of_ble_eq_true rfl) (Nat.le_of_ble_eq_true rfl)
  · refine lv_aload_n hx hb dX6_vector_21 rfl (lv_at hl 0 rfl) ?_
    refine xget (C := RX6) (T := TX6) (N := 9) hF hX hP (by decide +kernel) 0 2 rfl rfl (by decide) (by decide +kernel) rfl dX6_vector_22 ?_
    refine lv_iload_n hx hb dX6_vector_25 rfl (lv_at hl 1 rfl) ?_
    refine lv_iload_n hx hb dX6_vector_26 rfl (lv_at hl 3 rfl) ?_
    refine xV (rest := []) (As := [.int 0, .int dy]) (ws1 := [(dk, .inr (6, [.ref sf, .ref bl, .ref mn, .ref cm, .int (nI W), .int (nI H), .int kd, .int (nI md), .int fb])), (mn, .inr (2, [.ref pa, .ref mo, .int wh])), (pa, .inl (cs 0, 4, .inl V)), (mo, .inl (cs 0, 2, .inl M)), (cm, .inr (1, [.ref lv, .int fi, .int di, .int an]))]) (st1 := [.int (wi dy (-(M 0)) (M 0))]) hF (c_X2_reaches l D cs tt mn pa mo wh V M 0 dy (by decide)) gX6_vector_X2_reaches rfl (n := 2) (by decide +kernel) rfl ⟨⟨rfl, rfl⟩, Nat.le_of_ble_eq_true rfl, Nat.le_of_ble_eq_true rfl⟩ ⟨Nat.le_of_ble_eq_true rfl, Nat.le_of_ble_eq_true rfl⟩ hX hP hD hS [1, 3] (by decide) rfl [mn, mo] rfl rfl (q0 := 1) (ci := 2) rfl rfl rfl hl.1 rfl (Nat.le_of_ble_eq_true rfl) dX6_vector_27 rfl rfl (fun Hp locs hP hD hS => ?_)
    refine lv_if_ne (tgt := 43) hx hb dX6_vector_30 (by decide) (fun c_30 => ?_) (fun c_30 => ?_)
    · refine lv_aload_n hx hb dX6_vector_43 rfl (lv_at hl 0 rfl) ?_
      refine xV (rest := []) (As := []) (ws1 := [(dk, .inr (6, [.ref sf, .ref bl, .ref mn, .ref cm, .int (nI W), .int (nI H), .int kd, .int (nI md), .int fb])), (mn, .inr (2, [.ref pa, .ref mo, .int wh])), (pa, .inl (cs 0, 4, .inl V)), (mo, .inl (cs 0, 2, .inl M)), (cm, .inr (1, [.ref lv, .int fi, .int di, .int an]))]) (st1 := [.int (sql kd W H md)]) hF (c_X6_squaresLeft l D cs tt dk sf bl mn cm W H md kd fb) gX6_vector_X6_squaresLeft rfl (n := 0) (by decide +kernel) rfl ⟨⟨rfl, rfl⟩, Nat.le_of_ble_eq_true rfl, Nat.le_of_ble_eq_true rfl⟩ ⟨Nat.le_of_ble_eq_true rfl, Nat.le_of_ble_eq_true rfl⟩ hX hP hD hS [0] (by decide) rfl [dk] rfl rfl (q0 := 0) (ci := 6) rfl rfl rfl hl.1 rfl (Nat.le_of_ble_eq_true rfl) dX6_vector_44 rfl rfl (fun Hp locs hP hD hS => ?_)
      refine lv_if_eq (tgt := 68) hx hb dX6_vector_47 (by decide) (fun c_47 => ?_) (fun c_47 => ?_)
      · exact absurd (hu.symm.trans (show uVec (wi dx (-(M 0)) (M 0)) (wi dy (-(M 0)) (M 0)) (sql kd W H md) fi (khs kd 0) = 2 by simp [uVec, c_18, c_30, c_47])) (by decide)
      · refine lv_aload_n hx hb dX6_vector_50 rfl (lv_at hl 0 rfl) ?_
        refine xget (C := RX6) (T := TX6) (N := 9) hF hX hP (by decide +kernel) 0 3 rfl rfl (by decide) (by decide +kernel) rfl dX6_vector_51 ?_
        refine xget (C := RX1) (T := TX1) (N := 4) hF hX hP (by decide +kernel) 4 1 rfl rfl (by decide) (by decide +kernel) rfl dX6_vector_54 ?_
        refine lv_if_ne (tgt := 68) hx hb dX6_vector_57 (by decide) (fun c_57 => ?_) (fun c_57 => ?_)
        · exact absurd (hu.symm.trans (show uVec (wi dx (-(M 0)) (M 0)) (wi dy (-(M 0)) (M 0)) (sql kd W H md) fi (khs kd 0) = 2 by simp [uVec, c_18, c_30, c_47, c_57])) (by decide)
        · refine lv_aload_n hx hb dX6_vector_60 rfl (lv_at hl 0 rfl) ?_
          refine lv_iload_n hx hb dX6_vector_61 rfl (lv_at hl 1 rfl) ?_
          refine xV (rest := []) (As := [.int 0]) (ws1 := [(dk, .inr (6, [.ref sf, .ref bl, .ref mn, .ref cm, .int (nI W), .int (nI H), .int kd, .int (nI md), .int fb])), (mn, .inr (2, [.ref pa, .ref mo, .int wh])), (pa, .inl (cs 0, 4, .inl V)), (mo, .inl (cs 0, 2, .inl M)), (cm, .inr (1, [.ref lv, .int fi, .int di, .int an]))]) (st1 := [.int (khs kd 0)]) hF (c_X6_kindHas l D cs tt dk sf bl mn cm W H md kd fb 0) gX6_vector_X6_kindHas rfl (n := 1) (by decide +kernel) rfl ⟨⟨rfl, rfl⟩, Nat.le_of_ble_eq_true rfl, Nat.le_of_ble_eq_true rfl⟩ ⟨Nat.le_of_ble_eq_true rfl, Nat.le_of_ble_eq_true rfl⟩ hX hP hD hS [0] (by decide) rfl [dk] rfl rfl (q0 := 0) (ci := 6) rfl rfl rfl hl.1 rfl (Nat.le_of_ble_eq_true rfl) dX6_vector_62 rfl rfl (fun Hp locs hP hD hS => ?_)
          refine lv_if_ne (tgt := 78) hx hb dX6_vector_65 (by decide) (fun c_65 => ?_) (fun c_65 => ?_)
          · exact absurd (hu.symm.trans (show uVec (wi dx (-(M 0)) (M 0)) (wi dy (-(M 0)) (M 0)) (sql kd W H md) fi (khs kd 0) = 0 by simp [uVec, c_18, c_30, c_47, c_57, c_65])) (by decide)
          · exact absurd (hu.symm.trans (show uVec (wi dx (-(M 0)) (M 0)) (wi dy (-(M 0)) (M 0)) (sql kd W H md) fi (khs kd 0) = 2 by simp [uVec, c_18, c_30, c_47, c_57, c_65])) (by decide)
    · exact xthr (cls := xIAE) (text := "no such direction, or out of reach") hF hto hls hlk hX hC hP hD hS hl.1 (by decide +kernel) (by decide +kernel) (by decide +kernel) (by decide +kernel) (by decide) xot1 xng1 (by decide +kernel) dX6_vector_33 dX6_vector_36 dX6_vector_37 dX6_vector_39 dX6_vector_42 (Nat.le_of_ble_eq_true rfl) (Nat.le_of_ble_eq_true rfl) (Nat.le_of_ble_eq_true rfl) (Nat.le_of_ble_eq_true rfl)

set_option maxHeartbeats 4000000 in
set_option maxRecDepth 100000 in
theorem c_X6_vector0_x2 (l : Launch) (D : va_G) (cs : Nat → ClassId) (tt : Nat → Nat) (dk sf bl mn cm W H md : Nat) (kd fb : Int32) (lv pa mo : Nat) (fi di an wh dx dy : Int32) (V M : Nat → Int32) (hls : l.stackTraces = false) (hu : uVec (wi dx (-(M 0)) (M 0)) (wi dy (-(M 0)) (M 0)) (sql kd W H md) fi (khs kd 0) = 2) : xT l yX6_vector wsX6_vector ({ frames := 6, cells := 1, slots := 6, locals := 82 } : Room) D cs tt [.ref dk, .int 0, .int dx, .int dy] [(dk, .inr (6, [.ref sf, .ref bl, .ref mn, .ref cm, .int (nI W), .int (nI H), .int kd, .int (nI md), .int fb])), (mn, .inr (2, [.ref pa, .ref mo, .int wh])), (pa, .inl (cs 0, 4, .inl V)), (mo, .inl (cs 0, 2, .inl M)), (cm, .inr (1, [.ref lv, .int fi, .int di, .int an]))] xISE := by
  refine xT.of RX6 rfl (by decide) rfl (Nat.le_of_ble_eq_true rfl) ?_
  intro p e s m below meth c A ls hF hto hlk hX hC hP hD hS hl
  have hx := hF.1
  have hb := hF.2.1
  have hl : lv_has ls 4 [(0, .ref dk), (1, .int 0), (2, .int dx), (3, .int dy)] := hl
  refine lv_iload_n hx hb dX6_vector_0 rfl (lv_at hl 1 rfl) ?_
  refine lv_iconst (v := 0) hx hb dX6_vector_1 (by decide) ?_
  refine lv_iconst (v := 1) hx hb dX6_vector_2 (by decide) ?_
  refine xSt (rest := []) (As := [.int 0, .int 0, .int 1]) (ws1 := [(dk, .inr (6, [.ref sf, .ref bl, .ref mn, .ref cm, .int (nI W), .int (nI H), .int kd, .int (nI md), .int fb])), (mn, .inr (2, [.ref pa, .ref mo, .int wh])), (pa, .inl (cs 0, 4, .inl V)), (mo, .inl (cs 0, 2, .inl M)), (cm, .inr (1, [.ref lv, .int fi, .int di, .int an]))]) (st1 := [.int (wi 0 0 1)]) hF (c_X6_isWithin l D cs tt 0 0 1) gX6_vector_X6_isWithin rfl (n := 3) (by decide +kernel) rfl ⟨⟨rfl, rfl⟩, Nat.le_of_ble_eq_true rfl, Nat.le_of_ble_eq_true rfl⟩ ⟨Nat.le_of_ble_eq_true rfl, Nat.le_of_ble_eq_true rfl⟩ hX hP hD hS [] (by decide) rfl [] rfl rfl hl.1 rfl (Nat.le_of_ble_eq_true rfl) dX6_vector_3 rfl rfl (fun Hp locs hP hD hS => ?_)
  refine lv_if_eq (tgt := 33) hx hb dX6_vector_6 (by decide) (fun c_6 => absurd c_6 (by decide)) (fun _ => ?_)
  refine lv_aload_n hx hb dX6_vector_9 rfl (lv_at hl 0 rfl) ?_
  refine xget (C := RX6) (T := TX6) (N := 9) hF hX hP (by decide +kernel) 0 2 rfl rfl (by decide) (by decide +kernel) rfl dX6_vector_10 ?_
  refine lv_iload_n hx hb dX6_vector_13 rfl (lv_at hl 1 rfl) ?_
  refine lv_iload_n hx hb dX6_vector_14 rfl (lv_at hl 2 rfl) ?_
  refine xV (rest := []) (As := [.int 0, .int dx]) (ws1 := [(dk, .inr (6, [.ref sf, .ref bl, .ref mn, .ref cm, .int (nI W), .int (nI H), .int kd, .int (nI md), .int fb])), (mn, .inr (2, [.ref pa, .ref mo, .int wh])), (pa, .inl (cs 0, 4, .inl V)), (mo, .inl (cs 0, 2, .inl M)), (cm, .inr (1, [.ref lv, .int fi, .int di, .int an]))]) (st1 := [.int (wi dx (-(M 0)) (M 0))]) hF (c_X2_reaches l D cs tt mn pa mo wh V M 0 dx (by decide)) gX6_vector_X2_reaches rfl (n := 2) (by decide +kernel) rfl ⟨⟨rfl, rfl⟩, Nat.le_of_ble_eq_true rfl, Nat.le_of_ble_eq_true rfl⟩ ⟨Nat.le_of_ble_eq_true rfl, Nat.le_of_ble_eq_true rfl⟩ hX hP hD hS [1, 3] (by decide) rfl [mn, mo] rfl rfl (q0 := 1) (ci := 2) rfl rfl rfl hl.1 rfl (Nat.le_of_ble_eq_true rfl) dX6_vector_15 rfl rfl (fun Hp locs hP hD hS => ?_)
  refine lv_if_eq (tgt := 33) hx hb dX6_vector_18 (by decide) (fun c_18 => ?_) (fun c_18 => ?_)
  · exact absurd (hu.symm.trans (show uVec (wi dx (-(M 0)) (M 0)) (wi dy (-(M 0)) (M 0)) (sql kd W H md) fi (khs kd 0) = 1 by simp [uVec, c_18])) (by decide)
  · refine lv_aload_n hx hb dX6_vector_21 rfl (lv_at hl 0 rfl) ?_
    refine xget (C := RX6) (T := TX6) (N := 9) hF hX hP (by decide +kernel) 0 2 rfl rfl (by decide) (by decide +kernel) rfl dX6_vector_22 ?_
    refine lv_iload_n hx hb dX6_vector_25 rfl (lv_at hl 1 rfl) ?_
    refine lv_iload_n hx hb dX6_vector_26 rfl (lv_at hl 3 rfl) ?_
    refine xV (rest := []) (As := [.int 0, .int dy]) (ws1 := [(dk, .inr (6, [.ref sf, .ref bl, .ref mn, .ref cm, .int (nI W), .int (nI H), .int kd, .int (nI md), .int fb])), (mn, .inr (2, [.ref pa, .ref mo, .int wh])), (pa, .inl (cs 0, 4, .inl V)), (mo, .inl (cs 0, 2, .inl M)), (cm, .inr (1, [.ref lv, .int fi, .int di, .int an]))]) (st1 := [.int (wi dy (-(M 0)) (M 0))]) hF (c_X2_reaches l D cs tt mn pa mo wh V M 0 dy (by decide)) gX6_vector_X2_reaches rfl (n := 2) (by decide +kernel) rfl ⟨⟨rfl, rfl⟩, Nat.le_of_ble_eq_true rfl, Nat.le_of_ble_eq_true rfl⟩ ⟨Nat.le_of_ble_eq_true rfl, Nat.le_of_ble_eq_true rfl⟩ hX hP hD hS [1, 3] (by decide) rfl [mn, mo] rfl rfl (q0 := 1) (ci := 2) rfl rfl rfl hl.1 rfl (Nat.le_of_ble_eq_true rfl) dX6_vector_27 rfl rfl (fun Hp locs hP hD hS => ?_)
    refine lv_if_ne (tgt := 43) hx hb dX6_vector_30 (by decide) (fun c_30 => ?_) (fun c_30 => ?_)
    · refine lv_aload_n hx hb dX6_vector_43 rfl (lv_at hl 0 rfl) ?_
      refine xV (rest := []) (As := []) (ws1 := [(dk, .inr (6, [.ref sf, .ref bl, .ref mn, .ref cm, .int (nI W), .int (nI H), .int kd, .int (nI md), .int fb])), (mn, .inr (2, [.ref pa, .ref mo, .int wh])), (pa, .inl (cs 0, 4, .inl V)), (mo, .inl (cs 0, 2, .inl M)), (cm, .inr (1, [.ref lv, .int fi, .int di, .int an]))]) (st1 := [.int (sql kd W H md)]) hF (c_X6_squaresLeft l D cs tt dk sf bl mn cm W H md kd fb) gX6_vector_X6_squaresLeft rfl (n := 0) (by decide +kernel) rfl ⟨⟨rfl, rfl⟩, Nat.le_of_ble_eq_true rfl, Nat.le_of_ble_eq_true rfl⟩ ⟨Nat.le_of_ble_eq_true rfl, Nat.le_of_ble_eq_true rfl⟩ hX hP hD hS [0] (by decide) rfl [dk] rfl rfl (q0 := 0) (ci := 6) rfl rfl rfl hl.1 rfl (Nat.le_of_ble_eq_true rfl) dX6_vector_44 rfl rfl (fun Hp locs hP hD hS => ?_)
      refine lv_if_eq (tgt := 68) hx hb dX6_vector_47 (by decide) (fun c_47 => ?_) (fun c_47 => ?_)
      · exact xthr (cls := xISE) (text := "no square to come that has such a vector") hF hto hls hlk hX hC hP hD hS hl.1 (by decide +kernel) (by decide +kernel) (by decide +kernel) (by decide +kernel) (by decide) xot2 xng2 (by decide +kernel) dX6_vector_68 dX6_vector_71 dX6_vector_72 dX6_vector_74 dX6_vector_77 (Nat.le_of_ble_eq_true rfl) (Nat.le_of_ble_eq_true rfl) (Nat.le_of_ble_eq_true rfl) (Nat.le_of_ble_eq_true rfl)
      · refine lv_aload_n hx hb dX6_vector_50 rfl (lv_at hl 0 rfl) ?_
        refine xget (C := RX6) (T := TX6) (N := 9) hF hX hP (by decide +kernel) 0 3 rfl rfl (by decide) (by decide +kernel) rfl dX6_vector_51 ?_
        refine xget (C := RX1) (T := TX1) (N := 4) hF hX hP (by decide +kernel) 4 1 rfl rfl (by decide) (by decide +kernel) rfl dX6_vector_54 ?_
        refine lv_if_ne (tgt := 68) hx hb dX6_vector_57 (by decide) (fun c_57 => ?_) (fun c_57 => ?_)
        · exact xthr (cls := xISE) (text := "no square to come that has such a vector") hF hto hls hlk hX hC hP hD hS hl.1 (by decide +kernel) (by decide +kernel) (by decide +kernel) (by decide +kernel) (by decide) xot2 xng2 (by decide +kernel) dX6_vector_68 dX6_vector_71 dX6_vector_72 dX6_vector_74 dX6_vector_77 (Nat.le_of_ble_eq_true rfl) (Nat.le_of_ble_eq_true rfl) (Nat.le_of_ble_eq_true rfl) (Nat.le_of_ble_eq_true rfl)
        · refine lv_aload_n hx hb dX6_vector_60 rfl (lv_at hl 0 rfl) ?_
          refine lv_iload_n hx hb dX6_vector_61 rfl (lv_at hl 1 rfl) ?_
          refine xV (rest := []) (As := [.int 0]) (ws1 := [(dk, .inr (6, [.ref sf, .ref bl, .ref mn, .ref cm, .int (nI W), .int (nI H), .int kd, .int (nI md), .int fb])), (mn, .inr (2, [.ref pa, .ref mo, .int wh])), (pa, .inl (cs 0, 4, .inl V)), (mo, .inl (cs 0, 2, .inl M)), (cm, .inr (1, [.ref lv, .int fi, .int di, .int an]))]) (st1 := [.int (khs kd 0)]) hF (c_X6_kindHas l D cs tt dk sf bl mn cm W H md kd fb 0) gX6_vector_X6_kindHas rfl (n := 1) (by decide +kernel) rfl ⟨⟨rfl, rfl⟩, Nat.le_of_ble_eq_true rfl, Nat.le_of_ble_eq_true rfl⟩ ⟨Nat.le_of_ble_eq_true rfl, Nat.le_of_ble_eq_true rfl⟩ hX hP hD hS [0] (by decide) rfl [dk] rfl rfl (q0 := 0) (ci := 6) rfl rfl rfl hl.1 rfl (Nat.le_of_ble_eq_true rfl) dX6_vector_62 rfl rfl (fun Hp locs hP hD hS => ?_)
          refine lv_if_ne (tgt := 78) hx hb dX6_vector_65 (by decide) (fun c_65 => ?_) (fun c_65 => ?_)
          · exact absurd (hu.symm.trans (show uVec (wi dx (-(M 0)) (M 0)) (wi dy (-(M 0)) (M 0)) (sql kd W H md) fi (khs kd 0) = 0 by simp [uVec, c_18, c_30, c_47, c_57, c_65])) (by decide)
          · exact xthr (cls := xISE) (text := "no square to come that has such a vector") hF hto hls hlk hX hC hP hD hS hl.1 (by decide +kernel) (by decide +kernel) (by decide +kernel) (by decide +kernel) (by decide) xot2 xng2 (by decide +kernel) dX6_vector_68 dX6_vector_71 dX6_vector_72 dX6_vector_74 dX6_vector_77 (Nat.le_of_ble_eq_true rfl) (Nat.le_of_ble_eq_true rfl) (Nat.le_of_ble_eq_true rfl) (Nat.le_of_ble_eq_true rfl)
    · exact absurd (hu.symm.trans (show uVec (wi dx (-(M 0)) (M 0)) (wi dy (-(M 0)) (M 0)) (sql kd W H md) fi (khs kd 0) = 1 by simp [uVec, c_18, c_30])) (by decide)

set_option maxHeartbeats 4000000 in
set_option maxRecDepth 100000 in
theorem c_X6_vector1 (l : Launch) (D : va_G) (cs : Nat → ClassId) (tt : Nat → Nat) (dk sf bl mn cm W H md : Nat) (kd fb : Int32) (lv pa mo : Nat) (fi di an wh dx dy : Int32) (V M : Nat → Int32) (hu : uVec (wi dx (-(M 1)) (M 1)) (wi dy (-(M 1)) (M 1)) (sql kd W H md) fi (khs kd 1) = 0) : xM l yX6_vector wsX6_vector ({ frames := 2, cells := 0, slots := 0, locals := 45 } : Room) D cs tt [.ref dk, .int 1, .int dx, .int dy] [(dk, .inr (6, [.ref sf, .ref bl, .ref mn, .ref cm, .int (nI W), .int (nI H), .int kd, .int (nI md), .int fb])), (mn, .inr (2, [.ref pa, .ref mo, .int wh])), (pa, .inl (cs 0, 4, .inl V)), (mo, .inl (cs 0, 2, .inl M)), (cm, .inr (1, [.ref lv, .int fi, .int di, .int an]))] none [(dk, .inr (6, [.ref sf, .ref bl, .ref mn, .ref cm, .int (nI W), .int (nI H), .int kd, .int (nI md), .int fb])), (mn, .inr (2, [.ref pa, .ref mo, .int wh])), (pa, .inl (cs 0, 4, .inl (mov V 1 (M 1) dx dy))), (mo, .inl (cs 0, 2, .inl M)), (cm, .inr (1, [.ref lv, .int fi, .int (di ||| 2), .int 1]))] := by
  refine xM.of RX6 rfl (by decide) rfl (Nat.le_of_ble_eq_true rfl) ?_
  intro p e s m below meth c A ls hF hr hlk hX hP hD hS hl
  have hx := hF.1
  have hb := hF.2.1
  have hl : lv_has ls 4 [(0, .ref dk), (1, .int 1), (2, .int dx), (3, .int dy)] := hl
  refine lv_iload_n hx hb dX6_vector_0 rfl (lv_at hl 1 rfl) ?_
  refine lv_iconst (v := 0) hx hb dX6_vector_1 (by decide) ?_
  refine lv_iconst (v := 1) hx hb dX6_vector_2 (by decide) ?_
  refine xSt (rest := []) (As := [.int 1, .int 0, .int 1]) (ws1 := [(dk, .inr (6, [.ref sf, .ref bl, .ref mn, .ref cm, .int (nI W), .int (nI H), .int kd, .int (nI md), .int fb])), (mn, .inr (2, [.ref pa, .ref mo, .int wh])), (pa, .inl (cs 0, 4, .inl V)), (mo, .inl (cs 0, 2, .inl M)), (cm, .inr (1, [.ref lv, .int fi, .int di, .int an]))]) (st1 := [.int (wi 1 0 1)]) hF (c_X6_isWithin l D cs tt 1 0 1) gX6_vector_X6_isWithin rfl (n := 3) (by decide +kernel) rfl ⟨⟨rfl, rfl⟩, Nat.le_of_ble_eq_true rfl, Nat.le_of_ble_eq_true rfl⟩ ⟨Nat.le_of_ble_eq_true rfl, Nat.le_of_ble_eq_true rfl⟩ hX hP hD hS [] (by decide) rfl [] rfl rfl hl.1 rfl (Nat.le_of_ble_eq_true rfl) dX6_vector_3 rfl rfl (fun Hp locs hP hD hS => ?_)
  refine lv_if_eq (tgt := 33) hx hb dX6_vector_6 (by decide) (fun c_6 => absurd c_6 (by decide)) (fun _ => ?_)
  refine lv_aload_n hx hb dX6_vector_9 rfl (lv_at hl 0 rfl) ?_
  refine xget (C := RX6) (T := TX6) (N := 9) hF hX hP (by decide +kernel) 0 2 rfl rfl (by decide) (by decide +kernel) rfl dX6_vector_10 ?_
  refine lv_iload_n hx hb dX6_vector_13 rfl (lv_at hl 1 rfl) ?_
  refine lv_iload_n hx hb dX6_vector_14 rfl (lv_at hl 2 rfl) ?_
  refine xV (rest := []) (As := [.int 1, .int dx]) (ws1 := [(dk, .inr (6, [.ref sf, .ref bl, .ref mn, .ref cm, .int (nI W), .int (nI H), .int kd, .int (nI md), .int fb])), (mn, .inr (2, [.ref pa, .ref mo, .int wh])), (pa, .inl (cs 0, 4, .inl V)), (mo, .inl (cs 0, 2, .inl M)), (cm, .inr (1, [.ref lv, .int fi, .int di, .int an]))]) (st1 := [.int (wi dx (-(M 1)) (M 1))]) hF (c_X2_reaches l D cs tt mn pa mo wh V M 1 dx (by decide)) gX6_vector_X2_reaches rfl (n := 2) (by decide +kernel) rfl ⟨⟨rfl, rfl⟩, Nat.le_of_ble_eq_true rfl, Nat.le_of_ble_eq_true rfl⟩ ⟨Nat.le_of_ble_eq_true rfl, Nat.le_of_ble_eq_true rfl⟩ hX hP hD hS [1, 3] (by decide) rfl [mn, mo] rfl rfl (q0 := 1) (ci := 2) rfl rfl rfl hl.1 rfl (Nat.le_of_ble_eq_true rfl) dX6_vector_15 rfl rfl (fun Hp locs hP hD hS => ?_)
  refine lv_if_eq (tgt := 33) hx hb dX6_vector_18 (by decide) (fun c_18 => ?_) (fun c_18 => ?_)
  · exact absurd (hu.symm.trans (show uVec (wi dx (-(M 1)) (M 1)) (wi dy (-(M 1)) (M 1)) (sql kd W H md) fi (khs kd 1) = 1 by simp [uVec, c_18])) (by decide)
  · refine lv_aload_n hx hb dX6_vector_21 rfl (lv_at hl 0 rfl) ?_
    refine xget (C := RX6) (T := TX6) (N := 9) hF hX hP (by decide +kernel) 0 2 rfl rfl (by decide) (by decide +kernel) rfl dX6_vector_22 ?_
    refine lv_iload_n hx hb dX6_vector_25 rfl (lv_at hl 1 rfl) ?_
    refine lv_iload_n hx hb dX6_vector_26 rfl (lv_at hl 3 rfl) ?_
    refine xV (rest := []) (As := [.int 1, .int dy]) (ws1 := [(dk, .inr (6, [.ref sf, .ref bl, .ref mn, .ref cm, .int (nI W), .int (nI H), .int kd, .int (nI md), .int fb])), (mn, .inr (2, [.ref pa, .ref mo, .int wh])), (pa, .inl (cs 0, 4, .inl V)), (mo, .inl (cs 0, 2, .inl M)), (cm, .inr (1, [.ref lv, .int fi, .int di, .int an]))]) (st1 := [.int (wi dy (-(M 1)) (M 1))]) hF (c_X2_reaches l D cs tt mn pa mo wh V M 1 dy (by decide)) gX6_vector_X2_reaches rfl (n := 2) (by decide +kernel) rfl ⟨⟨rfl, rfl⟩, Nat.le_of_ble_eq_true rfl, Nat.le_of_ble_eq_true rfl⟩ ⟨Nat.le_of_ble_eq_true rfl, Nat.le_of_ble_eq_true rfl⟩ hX hP hD hS [1, 3] (by decide) rfl [mn, mo] rfl rfl (q0 := 1) (ci := 2) rfl rfl rfl hl.1 rfl (Nat.le_of_ble_eq_true rfl) dX6_vector_27 rfl rfl (fun Hp locs hP hD hS => ?_)
    refine lv_if_ne (tgt := 43) hx hb dX6_vector_30 (by decide) (fun c_30 => ?_) (fun c_30 => ?_)
    · refine lv_aload_n hx hb dX6_vector_43 rfl (lv_at hl 0 rfl) ?_
      refine xV (rest := []) (As := []) (ws1 := [(dk, .inr (6, [.ref sf, .ref bl, .ref mn, .ref cm, .int (nI W), .int (nI H), .int kd, .int (nI md), .int fb])), (mn, .inr (2, [.ref pa, .ref mo, .int wh])), (pa, .inl (cs 0, 4, .inl V)), (mo, .inl (cs 0, 2, .inl M)), (cm, .inr (1, [.ref lv, .int fi, .int di, .int an]))]) (st1 := [.int (sql kd W H md)]) hF (c_X6_squaresLeft l D cs tt dk sf bl mn cm W H md kd fb) gX6_vector_X6_squaresLeft rfl (n := 0) (by decide +kernel) rfl ⟨⟨rfl, rfl⟩, Nat.le_of_ble_eq_true rfl, Nat.le_of_ble_eq_true rfl⟩ ⟨Nat.le_of_ble_eq_true rfl, Nat.le_of_ble_eq_true rfl⟩ hX hP hD hS [0] (by decide) rfl [dk] rfl rfl (q0 := 0) (ci := 6) rfl rfl rfl hl.1 rfl (Nat.le_of_ble_eq_true rfl) dX6_vector_44 rfl rfl (fun Hp locs hP hD hS => ?_)
      refine lv_if_eq (tgt := 68) hx hb dX6_vector_47 (by decide) (fun c_47 => ?_) (fun c_47 => ?_)
      · exact absurd (hu.symm.trans (show uVec (wi dx (-(M 1)) (M 1)) (wi dy (-(M 1)) (M 1)) (sql kd W H md) fi (khs kd 1) = 2 by simp [uVec, c_18, c_30, c_47])) (by decide)
      · refine lv_aload_n hx hb dX6_vector_50 rfl (lv_at hl 0 rfl) ?_
        refine xget (C := RX6) (T := TX6) (N := 9) hF hX hP (by decide +kernel) 0 3 rfl rfl (by decide) (by decide +kernel) rfl dX6_vector_51 ?_
        refine xget (C := RX1) (T := TX1) (N := 4) hF hX hP (by decide +kernel) 4 1 rfl rfl (by decide) (by decide +kernel) rfl dX6_vector_54 ?_
        refine lv_if_ne (tgt := 68) hx hb dX6_vector_57 (by decide) (fun c_57 => ?_) (fun c_57 => ?_)
        · exact absurd (hu.symm.trans (show uVec (wi dx (-(M 1)) (M 1)) (wi dy (-(M 1)) (M 1)) (sql kd W H md) fi (khs kd 1) = 2 by simp [uVec, c_18, c_30, c_47, c_57])) (by decide)
        · refine lv_aload_n hx hb dX6_vector_60 rfl (lv_at hl 0 rfl) ?_
          refine lv_iload_n hx hb dX6_vector_61 rfl (lv_at hl 1 rfl) ?_
          refine xV (rest := []) (As := [.int 1]) (ws1 := [(dk, .inr (6, [.ref sf, .ref bl, .ref mn, .ref cm, .int (nI W), .int (nI H), .int kd, .int (nI md), .int fb])), (mn, .inr (2, [.ref pa, .ref mo, .int wh])), (pa, .inl (cs 0, 4, .inl V)), (mo, .inl (cs 0, 2, .inl M)), (cm, .inr (1, [.ref lv, .int fi, .int di, .int an]))]) (st1 := [.int (khs kd 1)]) hF (c_X6_kindHas l D cs tt dk sf bl mn cm W H md kd fb 1) gX6_vector_X6_kindHas rfl (n := 1) (by decide +kernel) rfl ⟨⟨rfl, rfl⟩, Nat.le_of_ble_eq_true rfl, Nat.le_of_ble_eq_true rfl⟩ ⟨Nat.le_of_ble_eq_true rfl, Nat.le_of_ble_eq_true rfl⟩ hX hP hD hS [0] (by decide) rfl [dk] rfl rfl (q0 := 0) (ci := 6) rfl rfl rfl hl.1 rfl (Nat.le_of_ble_eq_true rfl) dX6_vector_62 rfl rfl (fun Hp locs hP hD hS => ?_)
          refine lv_if_ne (tgt := 78) hx hb dX6_vector_65 (by decide) (fun c_65 => ?_) (fun c_65 => ?_)
          · refine lv_aload_n hx hb dX6_vector_78 rfl (lv_at hl 0 rfl) ?_
            refine xget (C := RX6) (T := TX6) (N := 9) hF hX hP (by decide +kernel) 0 2 rfl rfl (by decide) (by decide +kernel) rfl dX6_vector_79 ?_
            refine lv_iload_n hx hb dX6_vector_82 rfl (lv_at hl 1 rfl) ?_
            refine lv_iload_n hx hb dX6_vector_83 rfl (lv_at hl 2 rfl) ?_
            refine lv_iload_n hx hb dX6_vector_84 rfl (lv_at hl 3 rfl) ?_
            refine xV (rest := []) (As := [.int 1, .int dx, .int dy]) (ws1 := [(dk, .inr (6, [.ref sf, .ref bl, .ref mn, .ref cm, .int (nI W), .int (nI H), .int kd, .int (nI md), .int fb])), (mn, .inr (2, [.ref pa, .ref mo, .int wh])), (pa, .inl (cs 0, 4, .inl (mov V 1 (M 1) dx dy))), (mo, .inl (cs 0, 2, .inl M)), (cm, .inr (1, [.ref lv, .int fi, .int di, .int an]))]) (st1 := []) hF (c_X2_move l D cs tt mn pa mo wh V M 1 dx dy (by decide)) gX6_vector_X2_move rfl (n := 3) (by decide +kernel) rfl ⟨⟨rfl, rfl⟩, Nat.le_of_ble_eq_true rfl, Nat.le_of_ble_eq_true rfl⟩ ⟨Nat.le_of_ble_eq_true rfl, Nat.le_of_ble_eq_true rfl⟩ hX hP hD hS [1, 2, 3] (by decide) rfl [mn, pa, mo] rfl rfl (q0 := 1) (ci := 2) rfl rfl rfl hl.1 rfl (Nat.le_of_ble_eq_true rfl) dX6_vector_85 rfl rfl (fun Hp locs hP hD hS => ?_)
            refine lv_aload_n hx hb dX6_vector_88 rfl (lv_at hl 0 rfl) ?_
            refine xget (C := RX6) (T := TX6) (N := 9) hF hX hP (by decide +kernel) 0 3 rfl rfl (by decide) (by decide +kernel) rfl dX6_vector_89 ?_
            refine lv_dup hx hb dX6_vector_92 rfl ?_
            refine xget (C := RX1) (T := TX1) (N := 4) hF hX hP (by decide +kernel) 4 2 rfl rfl (by decide) (by decide +kernel) rfl dX6_vector_93 ?_
            refine lv_iload_n hx hb dX6_vector_96 rfl (lv_at hl 1 rfl) ?_
            refine lv_if_ne (tgt := 104) hx hb dX6_vector_97 (by decide) (fun _ => ?_) (fun c_97 => absurd c_97 (by decide))
            refine lv_iconst (v := 2) hx hb dX6_vector_104 (by decide) ?_
            refine lv_ior hx hb dX6_vector_105 ?_
            refine xputf (C := RX1) (T := TX1) (N := 4) (ws1 := [(dk, .inr (6, [.ref sf, .ref bl, .ref mn, .ref cm, .int (nI W), .int (nI H), .int kd, .int (nI md), .int fb])), (mn, .inr (2, [.ref pa, .ref mo, .int wh])), (pa, .inl (cs 0, 4, .inl (mov V 1 (M 1) dx dy))), (mo, .inl (cs 0, 2, .inl M)), (cm, .inr (1, [.ref lv, .int fi, .int (di ||| 2), .int an]))]) hF hX hP hD hS (by decide +kernel) tyX1 tyX1_ok nmX1 4 2 rfl rfl (by decide) (by decide +kernel) rfl (rfl) (rfl) (Nat.le_of_ble_eq_true rfl) dX6_vector_106 rfl (fun Hp locs hP hD hS => ?_)
            refine lv_aload_n hx hb dX6_vector_109 rfl (lv_at hl 0 rfl) ?_
            refine xget (C := RX6) (T := TX6) (N := 9) hF hX hP (by decide +kernel) 0 3 rfl rfl (by decide) (by decide +kernel) rfl dX6_vector_110 ?_
            refine lv_iconst (v := 1) hx hb dX6_vector_113 (by decide) ?_
            refine xputf (C := RX1) (T := TX1) (N := 4) (ws1 := [(dk, .inr (6, [.ref sf, .ref bl, .ref mn, .ref cm, .int (nI W), .int (nI H), .int kd, .int (nI md), .int fb])), (mn, .inr (2, [.ref pa, .ref mo, .int wh])), (pa, .inl (cs 0, 4, .inl (mov V 1 (M 1) dx dy))), (mo, .inl (cs 0, 2, .inl M)), (cm, .inr (1, [.ref lv, .int fi, .int (di ||| 2), .int 1]))]) hF hX hP hD hS (by decide +kernel) tyX1 tyX1_ok nmX1 4 3 rfl rfl (by decide) (by decide +kernel) rfl (rfl) (rfl) (Nat.le_of_ble_eq_true rfl) dX6_vector_114 rfl (fun Hp locs hP hD hS => ?_)
            exact xrv hF hr hlk hP hD hS dX6_vector_117
          · exact absurd (hu.symm.trans (show uVec (wi dx (-(M 1)) (M 1)) (wi dy (-(M 1)) (M 1)) (sql kd W H md) fi (khs kd 1) = 2 by simp [uVec, c_18, c_30, c_47, c_57, c_65])) (by decide)
    · exact absurd (hu.symm.trans (show uVec (wi dx (-(M 1)) (M 1)) (wi dy (-(M 1)) (M 1)) (sql kd W H md) fi (khs kd 1) = 1 by simp [uVec, c_18, c_30])) (by decide)

set_option maxHeartbeats 4000000 in
set_option maxRecDepth 100000 in
theorem c_X6_vector1_x1 (l : Launch) (D : va_G) (cs : Nat → ClassId) (tt : Nat → Nat) (dk sf bl mn cm W H md : Nat) (kd fb : Int32) (lv pa mo : Nat) (fi di an wh dx dy : Int32) (V M : Nat → Int32) (hls : l.stackTraces = false) (hu : uVec (wi dx (-(M 1)) (M 1)) (wi dy (-(M 1)) (M 1)) (sql kd W H md) fi (khs kd 1) = 1) : xT l yX6_vector wsX6_vector ({ frames := 6, cells := 1, slots := 6, locals := 82 } : Room) D cs tt [.ref dk, .int 1, .int dx, .int dy] [(dk, .inr (6, [.ref sf, .ref bl, .ref mn, .ref cm, .int (nI W), .int (nI H), .int kd, .int (nI md), .int fb])), (mn, .inr (2, [.ref pa, .ref mo, .int wh])), (pa, .inl (cs 0, 4, .inl V)), (mo, .inl (cs 0, 2, .inl M)), (cm, .inr (1, [.ref lv, .int fi, .int di, .int an]))] xIAE := by
  refine xT.of RX6 rfl (by decide) rfl (Nat.le_of_ble_eq_true rfl) ?_
  intro p e s m below meth c A ls hF hto hlk hX hC hP hD hS hl
  have hx := hF.1
  have hb := hF.2.1
  have hl : lv_has ls 4 [(0, .ref dk), (1, .int 1), (2, .int dx), (3, .int dy)] := hl
  refine lv_iload_n hx hb dX6_vector_0 rfl (lv_at hl 1 rfl) ?_
  refine lv_iconst (v := 0) hx hb dX6_vector_1 (by decide) ?_
  refine lv_iconst (v := 1) hx hb dX6_vector_2 (by decide) ?_
  refine xSt (rest := []) (As := [.int 1, .int 0, .int 1]) (ws1 := [(dk, .inr (6, [.ref sf, .ref bl, .ref mn, .ref cm, .int (nI W), .int (nI H), .int kd, .int (nI md), .int fb])), (mn, .inr (2, [.ref pa, .ref mo, .int wh])), (pa, .inl (cs 0, 4, .inl V)), (mo, .inl (cs 0, 2, .inl M)), (cm, .inr (1, [.ref lv, .int fi, .int di, .int an]))]) (st1 := [.int (wi 1 0 1)]) hF (c_X6_isWithin l D cs tt 1 0 1) gX6_vector_X6_isWithin rfl (n := 3) (by decide +kernel) rfl ⟨⟨rfl, rfl⟩, Nat.le_of_ble_eq_true rfl, Nat.le_of_ble_eq_true rfl⟩ ⟨Nat.le_of_ble_eq_true rfl, Nat.le_of_ble_eq_true rfl⟩ hX hP hD hS [] (by decide) rfl [] rfl rfl hl.1 rfl (Nat.le_of_ble_eq_true rfl) dX6_vector_3 rfl rfl (fun Hp locs hP hD hS => ?_)
  refine lv_if_eq (tgt := 33) hx hb dX6_vector_6 (by decide) (fun c_6 => absurd c_6 (by decide)) (fun _ => ?_)
  refine lv_aload_n hx hb dX6_vector_9 rfl (lv_at hl 0 rfl) ?_
  refine xget (C := RX6) (T := TX6) (N := 9) hF hX hP (by decide +kernel) 0 2 rfl rfl (by decide) (by decide +kernel) rfl dX6_vector_10 ?_
  refine lv_iload_n hx hb dX6_vector_13 rfl (lv_at hl 1 rfl) ?_
  refine lv_iload_n hx hb dX6_vector_14 rfl (lv_at hl 2 rfl) ?_
  refine xV (rest := []) (As := [.int 1, .int dx]) (ws1 := [(dk, .inr (6, [.ref sf, .ref bl, .ref mn, .ref cm, .int (nI W), .int (nI H), .int kd, .int (nI md), .int fb])), (mn, .inr (2, [.ref pa, .ref mo, .int wh])), (pa, .inl (cs 0, 4, .inl V)), (mo, .inl (cs 0, 2, .inl M)), (cm, .inr (1, [.ref lv, .int fi, .int di, .int an]))]) (st1 := [.int (wi dx (-(M 1)) (M 1))]) hF (c_X2_reaches l D cs tt mn pa mo wh V M 1 dx (by decide)) gX6_vector_X2_reaches rfl (n := 2) (by decide +kernel) rfl ⟨⟨rfl, rfl⟩, Nat.le_of_ble_eq_true rfl, Nat.le_of_ble_eq_true rfl⟩ ⟨Nat.le_of_ble_eq_true rfl, Nat.le_of_ble_eq_true rfl⟩ hX hP hD hS [1, 3] (by decide) rfl [mn, mo] rfl rfl (q0 := 1) (ci := 2) rfl rfl rfl hl.1 rfl (Nat.le_of_ble_eq_true rfl) dX6_vector_15 rfl rfl (fun Hp locs hP hD hS => ?_)
  refine lv_if_eq (tgt := 33) hx hb dX6_vector_18 (by decide) (fun c_18 => ?_) (fun c_18 => ?_)
  · exact xthr (cls := xIAE) (text := "no such direction, or out of reach") hF hto hls hlk hX hC hP hD hS hl.1 (by decide +kernel) (by decide +kernel) (by decide +kernel) (by decide +kernel) (by decide) xot1 xng1 (by decide +kernel) dX6_vector_33 dX6_vector_36 dX6_vector_37 dX6_vector_39 dX6_vector_42 (Nat.le_of_ble_eq_true rfl) (Nat.le_of_ble_eq_true rfl) (Nat.le_of_ble_eq_true rfl) (Nat.le_of_ble_eq_true rfl)
  · refine lv_aload_n hx hb dX6_vector_21 rfl (lv_at hl 0 rfl) ?_
    refine xget (C := RX6) (T := TX6) (N := 9) hF hX hP (by decide +kernel) 0 2 rfl rfl (by decide) (by decide +kernel) rfl dX6_vector_22 ?_
    refine lv_iload_n hx hb dX6_vector_25 rfl (lv_at hl 1 rfl) ?_
    refine lv_iload_n hx hb dX6_vector_26 rfl (lv_at hl 3 rfl) ?_
    refine xV (rest := []) (As := [.int 1, .int dy]) (ws1 := [(dk, .inr (6, [.ref sf, .ref bl, .ref mn, .ref cm, .int (nI W), .int (nI H), .int kd, .int (nI md), .int fb])), (mn, .inr (2, [.ref pa, .ref mo, .int wh])), (pa, .inl (cs 0, 4, .inl V)), (mo, .inl (cs 0, 2, .inl M)), (cm, .inr (1, [.ref lv, .int fi, .int di, .int an]))]) (st1 := [.int (wi dy (-(M 1)) (M 1))]) hF (c_X2_reaches l D cs tt mn pa mo wh V M 1 dy (by decide)) gX6_vector_X2_reaches rfl (n := 2) (by decide +kernel) rfl ⟨⟨rfl, rfl⟩, Nat.le_of_ble_eq_true rfl, Nat.le_of_ble_eq_true rfl⟩ ⟨Nat.le_of_ble_eq_true rfl, Nat.le_of_ble_eq_true rfl⟩ hX hP hD hS [1, 3] (by decide) rfl [mn, mo] rfl rfl (q0 := 1) (ci := 2) rfl rfl rfl hl.1 rfl (Nat.le_of_ble_eq_true rfl) dX6_vector_27 rfl rfl (fun Hp locs hP hD hS => ?_)
    refine lv_if_ne (tgt := 43) hx hb dX6_vector_30 (by decide) (fun c_30 => ?_) (fun c_30 => ?_)
    · refine lv_aload_n hx hb dX6_vector_43 rfl (lv_at hl 0 rfl) ?_
      refine xV (rest := []) (As := []) (ws1 := [(dk, .inr (6, [.ref sf, .ref bl, .ref mn, .ref cm, .int (nI W), .int (nI H), .int kd, .int (nI md), .int fb])), (mn, .inr (2, [.ref pa, .ref mo, .int wh])), (pa, .inl (cs 0, 4, .inl V)), (mo, .inl (cs 0, 2, .inl M)), (cm, .inr (1, [.ref lv, .int fi, .int di, .int an]))]) (st1 := [.int (sql kd W H md)]) hF (c_X6_squaresLeft l D cs tt dk sf bl mn cm W H md kd fb) gX6_vector_X6_squaresLeft rfl (n := 0) (by decide +kernel) rfl ⟨⟨rfl, rfl⟩, Nat.le_of_ble_eq_true rfl, Nat.le_of_ble_eq_true rfl⟩ ⟨Nat.le_of_ble_eq_true rfl, Nat.le_of_ble_eq_true rfl⟩ hX hP hD hS [0] (by decide) rfl [dk] rfl rfl (q0 := 0) (ci := 6) rfl rfl rfl hl.1 rfl (Nat.le_of_ble_eq_true rfl) dX6_vector_44 rfl rfl (fun Hp locs hP hD hS => ?_)
      refine lv_if_eq (tgt := 68) hx hb dX6_vector_47 (by decide) (fun c_47 => ?_) (fun c_47 => ?_)
      · exact absurd (hu.symm.trans (show uVec (wi dx (-(M 1)) (M 1)) (wi dy (-(M 1)) (M 1)) (sql kd W H md) fi (khs kd 1) = 2 by simp [uVec, c_18, c_30, c_47])) (by decide)
      · refine lv_aload_n hx hb dX6_vector_50 rfl (lv_at hl 0 rfl) ?_
        refine xget (C := RX6) (T := TX6) (N := 9) hF hX hP (by decide +kernel) 0 3 rfl rfl (by decide) (by decide +kernel) rfl dX6_vector_51 ?_
        refine xget (C := RX1) (T := TX1) (N := 4) hF hX hP (by decide +kernel) 4 1 rfl rfl (by decide) (by decide +kernel) rfl dX6_vector_54 ?_
        refine lv_if_ne (tgt := 68) hx hb dX6_vector_57 (by decide) (fun c_57 => ?_) (fun c_57 => ?_)
        · exact absurd (hu.symm.trans (show uVec (wi dx (-(M 1)) (M 1)) (wi dy (-(M 1)) (M 1)) (sql kd W H md) fi (khs kd 1) = 2 by simp [uVec, c_18, c_30, c_47, c_57])) (by decide)
        · refine lv_aload_n hx hb dX6_vector_60 rfl (lv_at hl 0 rfl) ?_
          refine lv_iload_n hx hb dX6_vector_61 rfl (lv_at hl 1 rfl) ?_
          refine xV (rest := []) (As := [.int 1]) (ws1 := [(dk, .inr (6, [.ref sf, .ref bl, .ref mn, .ref cm, .int (nI W), .int (nI H), .int kd, .int (nI md), .int fb])), (mn, .inr (2, [.ref pa, .ref mo, .int wh])), (pa, .inl (cs 0, 4, .inl V)), (mo, .inl (cs 0, 2, .inl M)), (cm, .inr (1, [.ref lv, .int fi, .int di, .int an]))]) (st1 := [.int (khs kd 1)]) hF (c_X6_kindHas l D cs tt dk sf bl mn cm W H md kd fb 1) gX6_vector_X6_kindHas rfl (n := 1) (by decide +kernel) rfl ⟨⟨rfl, rfl⟩, Nat.le_of_ble_eq_true rfl, Nat.le_of_ble_eq_true rfl⟩ ⟨Nat.le_of_ble_eq_true rfl, Nat.le_of_ble_eq_true rfl⟩ hX hP hD hS [0] (by decide) rfl [dk] rfl rfl (q0 := 0) (ci := 6) rfl rfl rfl hl.1 rfl (Nat.le_of_ble_eq_true rfl) dX6_vector_62 rfl rfl (fun Hp locs hP hD hS => ?_)
          refine lv_if_ne (tgt := 78) hx hb dX6_vector_65 (by decide) (fun c_65 => ?_) (fun c_65 => ?_)
          · exact absurd (hu.symm.trans (show uVec (wi dx (-(M 1)) (M 1)) (wi dy (-(M 1)) (M 1)) (sql kd W H md) fi (khs kd 1) = 0 by simp [uVec, c_18, c_30, c_47, c_57, c_65])) (by decide)
          · exact absurd (hu.symm.trans (show uVec (wi dx (-(M 1)) (M 1)) (wi dy (-(M 1)) (M 1)) (sql kd W H md) fi (khs kd 1) = 2 by simp [uVec, c_18, c_30, c_47, c_57, c_65])) (by decide)
    · exact xthr (cls := xIAE) (text := "no such direction, or out of reach") hF hto hls hlk hX hC hP hD hS hl.1 (by decide +kernel) (by decide +kernel) (by decide +kernel) (by decide +kernel) (by decide) xot1 xng1 (by decide +kernel) dX6_vector_33 dX6_vector_36 dX6_vector_37 dX6_vector_39 dX6_vector_42 (Nat.le_of_ble_eq_true rfl) (Nat.le_of_ble_eq_true rfl) (Nat.le_of_ble_eq_true rfl) (Nat.le_of_ble_eq_true rfl)

set_option maxHeartbeats 4000000 in
set_option maxRecDepth 100000 in
theorem c_X6_vector1_x2 (l : Launch) (D : va_G) (cs : Nat → ClassId) (tt : Nat → Nat) (dk sf bl mn cm W H md : Nat) (kd fb : Int32) (lv pa mo : Nat) (fi di an wh dx dy : Int32) (V M : Nat → Int32) (hls : l.stackTraces = false) (hu : uVec (wi dx (-(M 1)) (M 1)) (wi dy (-(M 1)) (M 1)) (sql kd W H md) fi (khs kd 1) = 2) : xT l yX6_vector wsX6_vector ({ frames := 6, cells := 1, slots := 6, locals := 82 } : Room) D cs tt [.ref dk, .int 1, .int dx, .int dy] [(dk, .inr (6, [.ref sf, .ref bl, .ref mn, .ref cm, .int (nI W), .int (nI H), .int kd, .int (nI md), .int fb])), (mn, .inr (2, [.ref pa, .ref mo, .int wh])), (pa, .inl (cs 0, 4, .inl V)), (mo, .inl (cs 0, 2, .inl M)), (cm, .inr (1, [.ref lv, .int fi, .int di, .int an]))] xISE := by
  refine xT.of RX6 rfl (by decide) rfl (Nat.le_of_ble_eq_true rfl) ?_
  intro p e s m below meth c A ls hF hto hlk hX hC hP hD hS hl
  have hx := hF.1
  have hb := hF.2.1
  have hl : lv_has ls 4 [(0, .ref dk), (1, .int 1), (2, .int dx), (3, .int dy)] := hl
  refine lv_iload_n hx hb dX6_vector_0 rfl (lv_at hl 1 rfl) ?_
  refine lv_iconst (v := 0) hx hb dX6_vector_1 (by decide) ?_
  refine lv_iconst (v := 1) hx hb dX6_vector_2 (by decide) ?_
  refine xSt (rest := []) (As := [.int 1, .int 0, .int 1]) (ws1 := [(dk, .inr (6, [.ref sf, .ref bl, .ref mn, .ref cm, .int (nI W), .int (nI H), .int kd, .int (nI md), .int fb])), (mn, .inr (2, [.ref pa, .ref mo, .int wh])), (pa, .inl (cs 0, 4, .inl V)), (mo, .inl (cs 0, 2, .inl M)), (cm, .inr (1, [.ref lv, .int fi, .int di, .int an]))]) (st1 := [.int (wi 1 0 1)]) hF (c_X6_isWithin l D cs tt 1 0 1) gX6_vector_X6_isWithin rfl (n := 3) (by decide +kernel) rfl ⟨⟨rfl, rfl⟩, Nat.le_of_ble_eq_true rfl, Nat.le_of_ble_eq_true rfl⟩ ⟨Nat.le_of_ble_eq_true rfl, Nat.le_of_ble_eq_true rfl⟩ hX hP hD hS [] (by decide) rfl [] rfl rfl hl.1 rfl (Nat.le_of_ble_eq_true rfl) dX6_vector_3 rfl rfl (fun Hp locs hP hD hS => ?_)
  refine lv_if_eq (tgt := 33) hx hb dX6_vector_6 (by decide) (fun c_6 => absurd c_6 (by decide)) (fun _ => ?_)
  refine lv_aload_n hx hb dX6_vector_9 rfl (lv_at hl 0 rfl) ?_
  refine xget (C := RX6) (T := TX6) (N := 9) hF hX hP (by decide +kernel) 0 2 rfl rfl (by decide) (by decide +kernel) rfl dX6_vector_10 ?_
  refine lv_iload_n hx hb dX6_vector_13 rfl (lv_at hl 1 rfl) ?_
  refine lv_iload_n hx hb dX6_vector_14 rfl (lv_at hl 2 rfl) ?_
  refine xV (rest := []) (As := [.int 1, .int dx]) (ws1 := [(dk, .inr (6, [.ref sf, .ref bl, .ref mn, .ref cm, .int (nI W), .int (nI H), .int kd, .int (nI md), .int fb])), (mn, .inr (2, [.ref pa, .ref mo, .int wh])), (pa, .inl (cs 0, 4, .inl V)), (mo, .inl (cs 0, 2, .inl M)), (cm, .inr (1, [.ref lv, .int fi, .int di, .int an]))]) (st1 := [.int (wi dx (-(M 1)) (M 1))]) hF (c_X2_reaches l D cs tt mn pa mo wh V M 1 dx (by decide)) gX6_vector_X2_reaches rfl (n := 2) (by decide +kernel) rfl ⟨⟨rfl, rfl⟩, Nat.le_of_ble_eq_true rfl, Nat.le_of_ble_eq_true rfl⟩ ⟨Nat.le_of_ble_eq_true rfl, Nat.le_of_ble_eq_true rfl⟩ hX hP hD hS [1, 3] (by decide) rfl [mn, mo] rfl rfl (q0 := 1) (ci := 2) rfl rfl rfl hl.1 rfl (Nat.le_of_ble_eq_true rfl) dX6_vector_15 rfl rfl (fun Hp locs hP hD hS => ?_)
  refine lv_if_eq (tgt := 33) hx hb dX6_vector_18 (by decide) (fun c_18 => ?_) (fun c_18 => ?_)
  · exact absurd (hu.symm.trans (show uVec (wi dx (-(M 1)) (M 1)) (wi dy (-(M 1)) (M 1)) (sql kd W H md) fi (khs kd 1) = 1 by simp [uVec, c_18])) (by decide)
  · refine lv_aload_n hx hb dX6_vector_21 rfl (lv_at hl 0 rfl) ?_
    refine xget (C := RX6) (T := TX6) (N := 9) hF hX hP (by decide +kernel) 0 2 rfl rfl (by decide) (by decide +kernel) rfl dX6_vector_22 ?_
    refine lv_iload_n hx hb dX6_vector_25 rfl (lv_at hl 1 rfl) ?_
    refine lv_iload_n hx hb dX6_vector_26 rfl (lv_at hl 3 rfl) ?_
    refine xV (rest := []) (As := [.int 1, .int dy]) (ws1 := [(dk, .inr (6, [.ref sf, .ref bl, .ref mn, .ref cm, .int (nI W), .int (nI H), .int kd, .int (nI md), .int fb])), (mn, .inr (2, [.ref pa, .ref mo, .int wh])), (pa, .inl (cs 0, 4, .inl V)), (mo, .inl (cs 0, 2, .inl M)), (cm, .inr (1, [.ref lv, .int fi, .int di, .int an]))]) (st1 := [.int (wi dy (-(M 1)) (M 1))]) hF (c_X2_reaches l D cs tt mn pa mo wh V M 1 dy (by decide)) gX6_vector_X2_reaches rfl (n := 2) (by decide +kernel) rfl ⟨⟨rfl, rfl⟩, Nat.le_of_ble_eq_true rfl, Nat.le_of_ble_eq_true rfl⟩ ⟨Nat.le_of_ble_eq_true rfl, Nat.le_of_ble_eq_true rfl⟩ hX hP hD hS [1, 3] (by decide) rfl [mn, mo] rfl rfl (q0 := 1) (ci := 2) rfl rfl rfl hl.1 rfl (Nat.le_of_ble_eq_true rfl) dX6_vector_27 rfl rfl (fun Hp locs hP hD hS => ?_)
    refine lv_if_ne (tgt := 43) hx hb dX6_vector_30 (by decide) (fun c_30 => ?_) (fun c_30 => ?_)
    · refine lv_aload_n hx hb dX6_vector_43 rfl (lv_at hl 0 rfl) ?_
      refine xV (rest := []) (As := []) (ws1 := [(dk, .inr (6, [.ref sf, .ref bl, .ref mn, .ref cm, .int (nI W), .int (nI H), .int kd, .int (nI md), .int fb])), (mn, .inr (2, [.ref pa, .ref mo, .int wh])), (pa, .inl (cs 0, 4, .inl V)), (mo, .inl (cs 0, 2, .inl M)), (cm, .inr (1, [.ref lv, .int fi, .int di, .int an]))]) (st1 := [.int (sql kd W H md)]) hF (c_X6_squaresLeft l D cs tt dk sf bl mn cm W H md kd fb) gX6_vector_X6_squaresLeft rfl (n := 0) (by decide +kernel) rfl ⟨⟨rfl, rfl⟩, Nat.le_of_ble_eq_true rfl, Nat.le_of_ble_eq_true rfl⟩ ⟨Nat.le_of_ble_eq_true rfl, Nat.le_of_ble_eq_true rfl⟩ hX hP hD hS [0] (by decide) rfl [dk] rfl rfl (q0 := 0) (ci := 6) rfl rfl rfl hl.1 rfl (Nat.le_of_ble_eq_true rfl) dX6_vector_44 rfl rfl (fun Hp locs hP hD hS => ?_)
      refine lv_if_eq (tgt := 68) hx hb dX6_vector_47 (by decide) (fun c_47 => ?_) (fun c_47 => ?_)
      · exact xthr (cls := xISE) (text := "no square to come that has such a vector") hF hto hls hlk hX hC hP hD hS hl.1 (by decide +kernel) (by decide +kernel) (by decide +kernel) (by decide +kernel) (by decide) xot2 xng2 (by decide +kernel) dX6_vector_68 dX6_vector_71 dX6_vector_72 dX6_vector_74 dX6_vector_77 (Nat.le_of_ble_eq_true rfl) (Nat.le_of_ble_eq_true rfl) (Nat.le_of_ble_eq_true rfl) (Nat.le_of_ble_eq_true rfl)
      · refine lv_aload_n hx hb dX6_vector_50 rfl (lv_at hl 0 rfl) ?_
        refine xget (C := RX6) (T := TX6) (N := 9) hF hX hP (by decide +kernel) 0 3 rfl rfl (by decide) (by decide +kernel) rfl dX6_vector_51 ?_
        refine xget (C := RX1) (T := TX1) (N := 4) hF hX hP (by decide +kernel) 4 1 rfl rfl (by decide) (by decide +kernel) rfl dX6_vector_54 ?_
        refine lv_if_ne (tgt := 68) hx hb dX6_vector_57 (by decide) (fun c_57 => ?_) (fun c_57 => ?_)
        · exact xthr (cls := xISE) (text := "no square to come that has such a vector") hF hto hls hlk hX hC hP hD hS hl.1 (by decide +kernel) (by decide +kernel) (by decide +kernel) (by decide +kernel) (by decide) xot2 xng2 (by decide +kernel) dX6_vector_68 dX6_vector_71 dX6_vector_72 dX6_vector_74 dX6_vector_77 (Nat.le_of_ble_eq_true rfl) (Nat.le_of_ble_eq_true rfl) (Nat.le_of_ble_eq_true rfl) (Nat.le_of_ble_eq_true rfl)
        · refine lv_aload_n hx hb dX6_vector_60 rfl (lv_at hl 0 rfl) ?_
          refine lv_iload_n hx hb dX6_vector_61 rfl (lv_at hl 1 rfl) ?_
          refine xV (rest := []) (As := [.int 1]) (ws1 := [(dk, .inr (6, [.ref sf, .ref bl, .ref mn, .ref cm, .int (nI W), .int (nI H), .int kd, .int (nI md), .int fb])), (mn, .inr (2, [.ref pa, .ref mo, .int wh])), (pa, .inl (cs 0, 4, .inl V)), (mo, .inl (cs 0, 2, .inl M)), (cm, .inr (1, [.ref lv, .int fi, .int di, .int an]))]) (st1 := [.int (khs kd 1)]) hF (c_X6_kindHas l D cs tt dk sf bl mn cm W H md kd fb 1) gX6_vector_X6_kindHas rfl (n := 1) (by decide +kernel) rfl ⟨⟨rfl, rfl⟩, Nat.le_of_ble_eq_true rfl, Nat.le_of_ble_eq_true rfl⟩ ⟨Nat.le_of_ble_eq_true rfl, Nat.le_of_ble_eq_true rfl⟩ hX hP hD hS [0] (by decide) rfl [dk] rfl rfl (q0 := 0) (ci := 6) rfl rfl rfl hl.1 rfl (Nat.le_of_ble_eq_true rfl) dX6_vector_62 rfl rfl (fun Hp locs hP hD hS => ?_)
          refine lv_if_ne (tgt := 78) hx hb dX6_vector_65 (by decide) (fun c_65 => ?_) (fun c_65 => ?_)
          · exact absurd (hu.symm.trans (show uVec (wi dx (-(M 1)) (M 1)) (wi dy (-(M 1)) (M 1)) (sql kd W H md) fi (khs kd 1) = 0 by simp [uVec, c_18, c_30, c_47, c_57, c_65])) (by decide)
          · exact xthr (cls := xISE) (text := "no square to come that has such a vector") hF hto hls hlk hX hC hP hD hS hl.1 (by decide +kernel) (by decide +kernel) (by decide +kernel) (by decide +kernel) (by decide) xot2 xng2 (by decide +kernel) dX6_vector_68 dX6_vector_71 dX6_vector_72 dX6_vector_74 dX6_vector_77 (Nat.le_of_ble_eq_true rfl) (Nat.le_of_ble_eq_true rfl) (Nat.le_of_ble_eq_true rfl) (Nat.le_of_ble_eq_true rfl)
    · exact absurd (hu.symm.trans (show uVec (wi dx (-(M 1)) (M 1)) (wi dy (-(M 1)) (M 1)) (sql kd W H md) fi (khs kd 1) = 1 by simp [uVec, c_18, c_30])) (by decide)

set_option maxHeartbeats 4000000 in
set_option maxRecDepth 100000 in
theorem c_X6_level (l : Launch) (D : va_G) (cs : Nat → ClassId) (tt : Nat → Nat) (dk sf bl mn cm W H md : Nat) (kd fb : Int32) (lv p9 j : Nat) (fi di an v : Int32) (Lv : Nat → Int32) (hu : uLevel (nI p9) (nI j) v (sql kd W H md) = 0) (hp : p9 < 6) (hj : j < 64) : xM l yX6_level wsX6_level ({ frames := 1, cells := 0, slots := 0, locals := 22 } : Room) D cs tt [.ref dk, .int (nI p9), .int (nI j), .int v] [(dk, .inr (6, [.ref sf, .ref bl, .ref mn, .ref cm, .int (nI W), .int (nI H), .int kd, .int (nI md), .int fb])), (cm, .inr (1, [.ref lv, .int fi, .int di, .int an])), (lv, .inl (cs 0, 384, .inl Lv))] none [(dk, .inr (6, [.ref sf, .ref bl, .ref mn, .ref cm, .int (nI W), .int (nI H), .int kd, .int (nI md), .int fb])), (cm, .inr (1, [.ref lv, .int fi, .int di, .int 1])), (lv, .inl (cs 0, 384, .inl (upd Lv (p9 * 64 + j) v)))] := by
  refine xM.of RX6 rfl (by decide) rfl (Nat.le_of_ble_eq_true rfl) ?_
  intro p e s m below meth c A ls hF hr hlk hX hP hD hS hl
  have hx := hF.1
  have hb := hF.2.1
  have hl : lv_has ls 4 [(0, .ref dk), (1, .int (nI p9)), (2, .int (nI j)), (3, .int v)] := hl
  refine lv_iload_n hx hb dX6_level_0 rfl (lv_at hl 1 rfl) ?_
  refine lv_iconst (v := 0) hx hb dX6_level_1 (by decide) ?_
  refine lv_iconst (v := 5) hx hb dX6_level_2 (by decide) ?_
  refine xSt (rest := []) (As := [.int (nI p9), .int 0, .int 5]) (ws1 := [(dk, .inr (6, [.ref sf, .ref bl, .ref mn, .ref cm, .int (nI W), .int (nI H), .int kd, .int (nI md), .int fb])), (cm, .inr (1, [.ref lv, .int fi, .int di, .int an])), (lv, .inl (cs 0, 384, .inl Lv))]) (st1 := [.int (wi (nI p9) 0 5)]) hF (c_X6_isWithin l D cs tt (nI p9) 0 5) gX6_level_X6_isWithin rfl (n := 3) (by decide +kernel) rfl ⟨⟨rfl, rfl⟩, Nat.le_of_ble_eq_true rfl, Nat.le_of_ble_eq_true rfl⟩ ⟨Nat.le_of_ble_eq_true rfl, Nat.le_of_ble_eq_true rfl⟩ hX hP hD hS [] (by decide) rfl [] rfl rfl hl.1 rfl (Nat.le_of_ble_eq_true rfl) dX6_level_3 rfl rfl (fun Hp locs hP hD hS => ?_)
  refine lv_if_eq (tgt := 32) hx hb dX6_level_6 (by decide) (fun c_6 => ?_) (fun c_6 => ?_)
  · exact absurd (hu.symm.trans (show uLevel (nI p9) (nI j) v (sql kd W H md) = 1 by simp [uLevel, c_6])) (by decide)
  · refine lv_iload_n hx hb dX6_level_9 rfl (lv_at hl 2 rfl) ?_
    refine lv_iconst (v := 0) hx hb dX6_level_10 (by decide) ?_
    refine lv_bipush (v := 63) hx hb dX6_level_11 (by decide) ?_
    refine xSt (rest := []) (As := [.int (nI j), .int 0, .int 63]) (ws1 := [(dk, .inr (6, [.ref sf, .ref bl, .ref mn, .ref cm, .int (nI W), .int (nI H), .int kd, .int (nI md), .int fb])), (cm, .inr (1, [.ref lv, .int fi, .int di, .int an])), (lv, .inl (cs 0, 384, .inl Lv))]) (st1 := [.int (wi (nI j) 0 63)]) hF (c_X6_isWithin l D cs tt (nI j) 0 63) gX6_level_X6_isWithin rfl (n := 3) (by decide +kernel) rfl ⟨⟨rfl, rfl⟩, Nat.le_of_ble_eq_true rfl, Nat.le_of_ble_eq_true rfl⟩ ⟨Nat.le_of_ble_eq_true rfl, Nat.le_of_ble_eq_true rfl⟩ hX hP hD hS [] (by decide) rfl [] rfl rfl hl.1 rfl (Nat.le_of_ble_eq_true rfl) dX6_level_13 rfl rfl (fun Hp locs hP hD hS => ?_)
    refine lv_if_eq (tgt := 32) hx hb dX6_level_16 (by decide) (fun c_16 => ?_) (fun c_16 => ?_)
    · exact absurd (hu.symm.trans (show uLevel (nI p9) (nI j) v (sql kd W H md) = 1 by simp [uLevel, c_6, c_16])) (by decide)
    · refine lv_iload_n hx hb dX6_level_19 rfl (lv_at hl 3 rfl) ?_
      refine lv_sipush (v := (-255)) hx hb dX6_level_20 (by decide) ?_
      refine lv_sipush (v := 255) hx hb dX6_level_23 (by decide) ?_
      refine xSt (rest := []) (As := [.int v, .int (-255), .int 255]) (ws1 := [(dk, .inr (6, [.ref sf, .ref bl, .ref mn, .ref cm, .int (nI W), .int (nI H), .int kd, .int (nI md), .int fb])), (cm, .inr (1, [.ref lv, .int fi, .int di, .int an])), (lv, .inl (cs 0, 384, .inl Lv))]) (st1 := [.int (wi v (-255) 255)]) hF (c_X6_isWithin l D cs tt v (-255) 255) gX6_level_X6_isWithin rfl (n := 3) (by decide +kernel) rfl ⟨⟨rfl, rfl⟩, Nat.le_of_ble_eq_true rfl, Nat.le_of_ble_eq_true rfl⟩ ⟨Nat.le_of_ble_eq_true rfl, Nat.le_of_ble_eq_true rfl⟩ hX hP hD hS [] (by decide) rfl [] rfl rfl hl.1 rfl (Nat.le_of_ble_eq_true rfl) dX6_level_26 rfl rfl (fun Hp locs hP hD hS => ?_)
      refine lv_if_ne (tgt := 42) hx hb dX6_level_29 (by decide) (fun c_29 => ?_) (fun c_29 => ?_)
      · refine lv_aload_n hx hb dX6_level_42 rfl (lv_at hl 0 rfl) ?_
        refine xV (rest := []) (As := []) (ws1 := [(dk, .inr (6, [.ref sf, .ref bl, .ref mn, .ref cm, .int (nI W), .int (nI H), .int kd, .int (nI md), .int fb])), (cm, .inr (1, [.ref lv, .int fi, .int di, .int an])), (lv, .inl (cs 0, 384, .inl Lv))]) (st1 := [.int (sql kd W H md)]) hF (c_X6_squaresLeft l D cs tt dk sf bl mn cm W H md kd fb) gX6_level_X6_squaresLeft rfl (n := 0) (by decide +kernel) rfl ⟨⟨rfl, rfl⟩, Nat.le_of_ble_eq_true rfl, Nat.le_of_ble_eq_true rfl⟩ ⟨Nat.le_of_ble_eq_true rfl, Nat.le_of_ble_eq_true rfl⟩ hX hP hD hS [0] (by decide) rfl [dk] rfl rfl (q0 := 0) (ci := 6) rfl rfl rfl hl.1 rfl (Nat.le_of_ble_eq_true rfl) dX6_level_43 rfl rfl (fun Hp locs hP hD hS => ?_)
        refine lv_if_ne (tgt := 59) hx hb dX6_level_46 (by decide) (fun c_46 => ?_) (fun c_46 => ?_)
        · refine lv_aload_n hx hb dX6_level_59 rfl (lv_at hl 0 rfl) ?_
          refine xget (C := RX6) (T := TX6) (N := 9) hF hX hP (by decide +kernel) 0 3 rfl rfl (by decide) (by decide +kernel) rfl dX6_level_60 ?_
          refine xget (C := RX1) (T := TX1) (N := 4) hF hX hP (by decide +kernel) 1 0 rfl rfl (by decide) (by decide +kernel) rfl dX6_level_63 ?_
          refine lv_iload_n hx hb dX6_level_66 rfl (lv_at hl 1 rfl) ?_
          refine lv_bipush (v := 64) hx hb dX6_level_67 (by decide) ?_
          refine lv_imul hx hb dX6_level_69 ?_
          refine lv_iload_n hx hb dX6_level_70 rfl (lv_at hl 2 rfl) ?_
          refine lv_iadd hx hb dX6_level_71 ?_
          refine xrwi (z := nI (p9 * 64 + j)) (nIma p9 64 j) ?_
          refine lv_iload_n hx hb dX6_level_72 rfl (lv_at hl 3 rfl) ?_
          refine xast (k := p9 * 64 + j) (ws1 := [(dk, .inr (6, [.ref sf, .ref bl, .ref mn, .ref cm, .int (nI W), .int (nI H), .int kd, .int (nI md), .int fb])), (cm, .inr (1, [.ref lv, .int fi, .int di, .int an])), (lv, .inl (cs 0, 384, .inl (upd Lv (p9 * 64 + j) v)))]) hF hX hP hD hS 2 rfl (nI_clamp (by omega)) (vp_in_nI (by omega) (by decide)) dX6_level_73 rfl (fun Hp locs hP hD hS => ?_)
          refine lv_aload_n hx hb dX6_level_74 rfl (lv_at hl 0 rfl) ?_
          refine xget (C := RX6) (T := TX6) (N := 9) hF hX hP (by decide +kernel) 0 3 rfl rfl (by decide) (by decide +kernel) rfl dX6_level_75 ?_
          refine lv_iconst (v := 1) hx hb dX6_level_78 (by decide) ?_
          refine xputf (C := RX1) (T := TX1) (N := 4) (ws1 := [(dk, .inr (6, [.ref sf, .ref bl, .ref mn, .ref cm, .int (nI W), .int (nI H), .int kd, .int (nI md), .int fb])), (cm, .inr (1, [.ref lv, .int fi, .int di, .int 1])), (lv, .inl (cs 0, 384, .inl (upd Lv (p9 * 64 + j) v)))]) hF hX hP hD hS (by decide +kernel) tyX1 tyX1_ok nmX1 1 3 rfl rfl (by decide) (by decide +kernel) rfl (rfl) (rfl) (Nat.le_of_ble_eq_true rfl) dX6_level_79 rfl (fun Hp locs hP hD hS => ?_)
          exact xrv hF hr hlk hP hD hS dX6_level_82
        · exact absurd (hu.symm.trans (show uLevel (nI p9) (nI j) v (sql kd W H md) = 2 by simp [uLevel, c_6, c_16, c_29, c_46])) (by decide)
      · exact absurd (hu.symm.trans (show uLevel (nI p9) (nI j) v (sql kd W H md) = 1 by simp [uLevel, c_6, c_16, c_29])) (by decide)

set_option maxHeartbeats 4000000 in
set_option maxRecDepth 100000 in
theorem c_X6_level_x1 (l : Launch) (D : va_G) (cs : Nat → ClassId) (tt : Nat → Nat) (dk sf bl mn cm W H md : Nat) (kd fb : Int32) (b i v : Int32) (hls : l.stackTraces = false) (hu : uLevel b i v (sql kd W H md) = 1) : xT l yX6_level wsX6_level ({ frames := 6, cells := 1, slots := 6, locals := 82 } : Room) D cs tt [.ref dk, .int b, .int i, .int v] [(dk, .inr (6, [.ref sf, .ref bl, .ref mn, .ref cm, .int (nI W), .int (nI H), .int kd, .int (nI md), .int fb]))] xIAE := by
  refine xT.of RX6 rfl (by decide) rfl (Nat.le_of_ble_eq_true rfl) ?_
  intro p e s m below meth c A ls hF hto hlk hX hC hP hD hS hl
  have hx := hF.1
  have hb := hF.2.1
  have hl : lv_has ls 4 [(0, .ref dk), (1, .int b), (2, .int i), (3, .int v)] := hl
  refine lv_iload_n hx hb dX6_level_0 rfl (lv_at hl 1 rfl) ?_
  refine lv_iconst (v := 0) hx hb dX6_level_1 (by decide) ?_
  refine lv_iconst (v := 5) hx hb dX6_level_2 (by decide) ?_
  refine xSt (rest := []) (As := [.int b, .int 0, .int 5]) (ws1 := [(dk, .inr (6, [.ref sf, .ref bl, .ref mn, .ref cm, .int (nI W), .int (nI H), .int kd, .int (nI md), .int fb]))]) (st1 := [.int (wi b 0 5)]) hF (c_X6_isWithin l D cs tt b 0 5) gX6_level_X6_isWithin rfl (n := 3) (by decide +kernel) rfl ⟨⟨rfl, rfl⟩, Nat.le_of_ble_eq_true rfl, Nat.le_of_ble_eq_true rfl⟩ ⟨Nat.le_of_ble_eq_true rfl, Nat.le_of_ble_eq_true rfl⟩ hX hP hD hS [] (by decide) rfl [] rfl rfl hl.1 rfl (Nat.le_of_ble_eq_true rfl) dX6_level_3 rfl rfl (fun Hp locs hP hD hS => ?_)
  refine lv_if_eq (tgt := 32) hx hb dX6_level_6 (by decide) (fun c_6 => ?_) (fun c_6 => ?_)
  · exact xthr (cls := xIAE) (text := "no such block, place or level") hF hto hls hlk hX hC hP hD hS hl.1 (by decide +kernel) (by decide +kernel) (by decide +kernel) (by decide +kernel) (by decide) xot1 xng1 (by decide +kernel) dX6_level_32 dX6_level_35 dX6_level_36 dX6_level_38 dX6_level_41 (Nat.le_of_ble_eq_true rfl) (Nat.le_of_ble_eq_true rfl) (Nat.le_of_ble_eq_true rfl) (Nat.le_of_ble_eq_true rfl)
  · refine lv_iload_n hx hb dX6_level_9 rfl (lv_at hl 2 rfl) ?_
    refine lv_iconst (v := 0) hx hb dX6_level_10 (by decide) ?_
    refine lv_bipush (v := 63) hx hb dX6_level_11 (by decide) ?_
    refine xSt (rest := []) (As := [.int i, .int 0, .int 63]) (ws1 := [(dk, .inr (6, [.ref sf, .ref bl, .ref mn, .ref cm, .int (nI W), .int (nI H), .int kd, .int (nI md), .int fb]))]) (st1 := [.int (wi i 0 63)]) hF (c_X6_isWithin l D cs tt i 0 63) gX6_level_X6_isWithin rfl (n := 3) (by decide +kernel) rfl ⟨⟨rfl, rfl⟩, Nat.le_of_ble_eq_true rfl, Nat.le_of_ble_eq_true rfl⟩ ⟨Nat.le_of_ble_eq_true rfl, Nat.le_of_ble_eq_true rfl⟩ hX hP hD hS [] (by decide) rfl [] rfl rfl hl.1 rfl (Nat.le_of_ble_eq_true rfl) dX6_level_13 rfl rfl (fun Hp locs hP hD hS => ?_)
    refine lv_if_eq (tgt := 32) hx hb dX6_level_16 (by decide) (fun c_16 => ?_) (fun c_16 => ?_)
    · exact xthr (cls := xIAE) (text := "no such block, place or level") hF hto hls hlk hX hC hP hD hS hl.1 (by decide +kernel) (by decide +kernel) (by decide +kernel) (by decide +kernel) (by decide) xot1 xng1 (by decide +kernel) dX6_level_32 dX6_level_35 dX6_level_36 dX6_level_38 dX6_level_41 (Nat.le_of_ble_eq_true rfl) (Nat.le_of_ble_eq_true rfl) (Nat.le_of_ble_eq_true rfl) (Nat.le_of_ble_eq_true rfl)
    · refine lv_iload_n hx hb dX6_level_19 rfl (lv_at hl 3 rfl) ?_
      refine lv_sipush (v := (-255)) hx hb dX6_level_20 (by decide) ?_
      refine lv_sipush (v := 255) hx hb dX6_level_23 (by decide) ?_
      refine xSt (rest := []) (As := [.int v, .int (-255), .int 255]) (ws1 := [(dk, .inr (6, [.ref sf, .ref bl, .ref mn, .ref cm, .int (nI W), .int (nI H), .int kd, .int (nI md), .int fb]))]) (st1 := [.int (wi v (-255) 255)]) hF (c_X6_isWithin l D cs tt v (-255) 255) gX6_level_X6_isWithin rfl (n := 3) (by decide +kernel) rfl ⟨⟨rfl, rfl⟩, Nat.le_of_ble_eq_true rfl, Nat.le_of_ble_eq_true rfl⟩ ⟨Nat.le_of_ble_eq_true rfl, Nat.le_of_ble_eq_true rfl⟩ hX hP hD hS [] (by decide) rfl [] rfl rfl hl.1 rfl (Nat.le_of_ble_eq_true rfl) dX6_level_26 rfl rfl (fun Hp locs hP hD hS => ?_)
      refine lv_if_ne (tgt := 42) hx hb dX6_level_29 (by decide) (fun c_29 => ?_) (fun c_29 => ?_)
      · refine lv_aload_n hx hb dX6_level_42 rfl (lv_at hl 0 rfl) ?_
        refine xV (rest := []) (As := []) (ws1 := [(dk, .inr (6, [.ref sf, .ref bl, .ref mn, .ref cm, .int (nI W), .int (nI H), .int kd, .int (nI md), .int fb]))]) (st1 := [.int (sql kd W H md)]) hF (c_X6_squaresLeft l D cs tt dk sf bl mn cm W H md kd fb) gX6_level_X6_squaresLeft rfl (n := 0) (by decide +kernel) rfl ⟨⟨rfl, rfl⟩, Nat.le_of_ble_eq_true rfl, Nat.le_of_ble_eq_true rfl⟩ ⟨Nat.le_of_ble_eq_true rfl, Nat.le_of_ble_eq_true rfl⟩ hX hP hD hS [0] (by decide) rfl [dk] rfl rfl (q0 := 0) (ci := 6) rfl rfl rfl hl.1 rfl (Nat.le_of_ble_eq_true rfl) dX6_level_43 rfl rfl (fun Hp locs hP hD hS => ?_)
        refine lv_if_ne (tgt := 59) hx hb dX6_level_46 (by decide) (fun c_46 => ?_) (fun c_46 => ?_)
        · exact absurd (hu.symm.trans (show uLevel b i v (sql kd W H md) = 0 by simp [uLevel, c_6, c_16, c_29, c_46])) (by decide)
        · exact absurd (hu.symm.trans (show uLevel b i v (sql kd W H md) = 2 by simp [uLevel, c_6, c_16, c_29, c_46])) (by decide)
      · exact xthr (cls := xIAE) (text := "no such block, place or level") hF hto hls hlk hX hC hP hD hS hl.1 (by decide +kernel) (by decide +kernel) (by decide +kernel) (by decide +kernel) (by decide) xot1 xng1 (by decide +kernel) dX6_level_32 dX6_level_35 dX6_level_36 dX6_level_38 dX6_level_41 (Nat.le_of_ble_eq_true rfl) (Nat.le_of_ble_eq_true rfl) (Nat.le_of_ble_eq_true rfl) (Nat.le_of_ble_eq_true rfl)

set_option maxHeartbeats 4000000 in
set_option maxRecDepth 100000 in
theorem c_X6_level_x2 (l : Launch) (D : va_G) (cs : Nat → ClassId) (tt : Nat → Nat) (dk sf bl mn cm W H md : Nat) (kd fb : Int32) (b i v : Int32) (hls : l.stackTraces = false) (hu : uLevel b i v (sql kd W H md) = 2) : xT l yX6_level wsX6_level ({ frames := 6, cells := 1, slots := 6, locals := 82 } : Room) D cs tt [.ref dk, .int b, .int i, .int v] [(dk, .inr (6, [.ref sf, .ref bl, .ref mn, .ref cm, .int (nI W), .int (nI H), .int kd, .int (nI md), .int fb]))] xISE := by
  refine xT.of RX6 rfl (by decide) rfl (Nat.le_of_ble_eq_true rfl) ?_
  intro p e s m below meth c A ls hF hto hlk hX hC hP hD hS hl
  have hx := hF.1
  have hb := hF.2.1
  have hl : lv_has ls 4 [(0, .ref dk), (1, .int b), (2, .int i), (3, .int v)] := hl
  refine lv_iload_n hx hb dX6_level_0 rfl (lv_at hl 1 rfl) ?_
  refine lv_iconst (v := 0) hx hb dX6_level_1 (by decide) ?_
  refine lv_iconst (v := 5) hx hb dX6_level_2 (by decide) ?_
  refine xSt (rest := []) (As := [.int b, .int 0, .int 5]) (ws1 := [(dk, .inr (6, [.ref sf, .ref bl, .ref mn, .ref cm, .int (nI W), .int (nI H), .int kd, .int (nI md), .int fb]))]) (st1 := [.int (wi b 0 5)]) hF (c_X6_isWithin l D cs tt b 0 5) gX6_level_X6_isWithin rfl (n := 3) (by decide +kernel) rfl ⟨⟨rfl, rfl⟩, Nat.le_of_ble_eq_true rfl, Nat.le_of_ble_eq_true rfl⟩ ⟨Nat.le_of_ble_eq_true rfl, Nat.le_of_ble_eq_true rfl⟩ hX hP hD hS [] (by decide) rfl [] rfl rfl hl.1 rfl (Nat.le_of_ble_eq_true rfl) dX6_level_3 rfl rfl (fun Hp locs hP hD hS => ?_)
  refine lv_if_eq (tgt := 32) hx hb dX6_level_6 (by decide) (fun c_6 => ?_) (fun c_6 => ?_)
  · exact absurd (hu.symm.trans (show uLevel b i v (sql kd W H md) = 1 by simp [uLevel, c_6])) (by decide)
  · refine lv_iload_n hx hb dX6_level_9 rfl (lv_at hl 2 rfl) ?_
    refine lv_iconst (v := 0) hx hb dX6_level_10 (by decide) ?_
    refine lv_bipush (v := 63) hx hb dX6_level_11 (by decide) ?_
    refine xSt (rest := []) (As := [.int i, .int 0, .int 63]) (ws1 := [(dk, .inr (6, [.ref sf, .ref bl, .ref mn, .ref cm, .int (nI W), .int (nI H), .int kd, .int (nI md), .int fb]))]) (st1 := [.int (wi i 0 63)]) hF (c_X6_isWithin l D cs tt i 0 63) gX6_level_X6_isWithin rfl (n := 3) (by decide +kernel) rfl ⟨⟨rfl, rfl⟩, Nat.le_of_ble_eq_true rfl, Nat.le_of_ble_eq_true rfl⟩ ⟨Nat.le_of_ble_eq_true rfl, Nat.le_of_ble_eq_true rfl⟩ hX hP hD hS [] (by decide) rfl [] rfl rfl hl.1 rfl (Nat.le_of_ble_eq_true rfl) dX6_level_13 rfl rfl (fun Hp locs hP hD hS => ?_)
    refine lv_if_eq (tgt := 32) hx hb dX6_level_16 (by decide) (fun c_16 => ?_) (fun c_16 => ?_)
    · exact absurd (hu.symm.trans (show uLevel b i v (sql kd W H md) = 1 by simp [uLevel, c_6, c_16])) (by decide)
    · refine lv_iload_n hx hb dX6_level_19 rfl (lv_at hl 3 rfl) ?_
      refine lv_sipush (v := (-255)) hx hb dX6_level_20 (by decide) ?_
      refine lv_sipush (v := 255) hx hb dX6_level_23 (by decide) ?_
      refine xSt (rest := []) (As := [.int v, .int (-255), .int 255]) (ws1 := [(dk, .inr (6, [.ref sf, .ref bl, .ref mn, .ref cm, .int (nI W), .int (nI H), .int kd, .int (nI md), .int fb]))]) (st1 := [.int (wi v (-255) 255)]) hF (c_X6_isWithin l D cs tt v (-255) 255) gX6_level_X6_isWithin rfl (n := 3) (by decide +kernel) rfl ⟨⟨rfl, rfl⟩, Nat.le_of_ble_eq_true rfl, Nat.le_of_ble_eq_true rfl⟩ ⟨Nat.le_of_ble_eq_true rfl, Nat.le_of_ble_eq_true rfl⟩ hX hP hD hS [] (by decide) rfl [] rfl rfl hl.1 rfl (Nat.le_of_ble_eq_true rfl) dX6_level_26 rfl rfl (fun Hp locs hP hD hS => ?_)
      refine lv_if_ne (tgt := 42) hx hb dX6_level_29 (by decide) (fun c_29 => ?_) (fun c_29 => ?_)
      · refine lv_aload_n hx hb dX6_level_42 rfl (lv_at hl 0 rfl) ?_
        refine xV (rest := []) (As := []) (ws1 := [(dk, .inr (6, [.ref sf, .ref bl, .ref mn, .ref cm, .int (nI W), .int (nI H), .int kd, .int (nI md), .int fb]))]) (st1 := [.int (sql kd W H md)]) hF (c_X6_squaresLeft l D cs tt dk sf bl mn cm W H md kd fb) gX6_level_X6_squaresLeft rfl (n := 0) (by decide +kernel) rfl ⟨⟨rfl, rfl⟩, Nat.le_of_ble_eq_true rfl, Nat.le_of_ble_eq_true rfl⟩ ⟨Nat.le_of_ble_eq_true rfl, Nat.le_of_ble_eq_true rfl⟩ hX hP hD hS [0] (by decide) rfl [dk] rfl rfl (q0 := 0) (ci := 6) rfl rfl rfl hl.1 rfl (Nat.le_of_ble_eq_true rfl) dX6_level_43 rfl rfl (fun Hp locs hP hD hS => ?_)
        refine lv_if_ne (tgt := 59) hx hb dX6_level_46 (by decide) (fun c_46 => ?_) (fun c_46 => ?_)
        · exact absurd (hu.symm.trans (show uLevel b i v (sql kd W H md) = 0 by simp [uLevel, c_6, c_16, c_29, c_46])) (by decide)
        · exact xthr (cls := xISE) (text := "no square to come") hF hto hls hlk hX hC hP hD hS hl.1 (by decide +kernel) (by decide +kernel) (by decide +kernel) (by decide +kernel) (by decide) xot2 xng2 (by decide +kernel) dX6_level_49 dX6_level_52 dX6_level_53 dX6_level_55 dX6_level_58 (Nat.le_of_ble_eq_true rfl) (Nat.le_of_ble_eq_true rfl) (Nat.le_of_ble_eq_true rfl) (Nat.le_of_ble_eq_true rfl)
      · exact absurd (hu.symm.trans (show uLevel b i v (sql kd W H md) = 1 by simp [uLevel, c_6, c_16, c_29])) (by decide)
