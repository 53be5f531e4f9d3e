def qFU : Nat := 10000
def qw_S_bit (p1 : Int32) (x : QX) (post : Int64 → QX → Prop) : Prop :=
  post ((1 : Int64) <<< (p1.toInt64 &&& 63)) x
def qw_A_fill_S5 (post : QX → Prop) (rec : Int32 → Int32 → Int32 → QX → Prop) (v1 : Int32) (v2 : Int32) (v3 : Int32) (x : QX) : Prop :=
  ((v3 ≤ v2) → post x) ∧ (¬ (v3 ≤ v2) → vp_in v2 60 ∧ ∀ x1 : QX, x1 = sA x 8 (upd (gA x 8) v2.toNatClampNeg v1) → rec v1 (v2 + 1) v3 x1)
def qw_A_fill_H5  (post : QX → Prop) : Nat → Int32 → Int32 → Int32 → QX → Prop
  | 0, _, _, _, _ => False
  | n + 1, v1, v2, v3, x => qw_A_fill_S5  post (qw_A_fill_H5  post n) v1 v2 v3 x
def qw_A_fill (p2 : Int32) (x : QX) (post : QX → Prop) : Prop :=
  qw_A_fill_H5 post qFU p2 (0 : Int32) (60 : Int32) x
def qw_D_start  (x : QX) (post : QX → Prop) : Prop :=
  qw_A_fill (-1 : Int32) x (fun x1 => ∀ x2 : QX, x2 = sI x1 6 (gI x1 2) → post x2)
def qw_O_has (p1 : Int32) (x : QX) (post : Int32 → QX → Prop) : Prop :=
  ((p1 < 0) → post (0 : Int32) x) ∧ (¬ (p1 < 0) → (((gI x 4) ≤ p1) → post (0 : Int32) x) ∧ (¬ ((gI x 4) ≤ p1) → post (1 : Int32) x))
def qw_O_shownIn (p1 : Int32) (x : QX) (post : Int64 → QX → Prop) : Prop :=
  qw_O_has p1 x (fun r2 x1 => ((r2 = 0) → post (0 : Int64) x1) ∧ (¬ (r2 = 0) → vp_in p1 100 ∧ (post (gB x1 1 p1.toNatClampNeg) x1)))
def qw_O_workingIn (p1 : Int32) (x : QX) (post : Int32 → QX → Prop) : Prop :=
  qw_O_has p1 x (fun r2 x1 => ((r2 = 0) → post (-1 : Int32) x1) ∧ (¬ (r2 = 0) → vp_in p1 100 ∧ (post (gA x1 5 p1.toNatClampNeg) x1)))
def qw_S_isMark (p1 : Int32) (x : QX) (post : Int32 → QX → Prop) : Prop :=
  ((p1 < 0) → post (0 : Int32) x) ∧ (¬ (p1 < 0) → (((3 : Int32) ≤ p1) → post (0 : Int32) x) ∧ (¬ ((3 : Int32) ≤ p1) → post (1 : Int32) x))
def qw_O_markIn (p1 : Int32) (p2 : Int32) (x : QX) (post : Int32 → QX → Prop) : Prop :=
  qw_O_has p1 x (fun r2 x1 => ((r2 = 0) → post (-1 : Int32) x1) ∧ (¬ (r2 = 0) → qw_S_isMark p2 x1 (fun r4 x3 => ((r4 = 0) → post (-1 : Int32) x3) ∧ (¬ (r4 = 0) → vp_in ((p1 * (3 : Int32)) + p2) 300 ∧ (post (gA x3 6 ((p1 * (3 : Int32)) + p2).toNatClampNeg) x3)))))
def qw_D_open_S24 (post : QX → Prop) (rec : Int32 → Int32 → QX → Prop) (v2 : Int32) (v3 : Int32) (x : QX) : Prop :=
  (((3 : Int32) ≤ v3) → post x) ∧ (¬ ((3 : Int32) ≤ v3) → qw_O_markIn v2 v3 x (fun r9 x8 => vp_in v3 3 ∧ ∀ x10 : QX, x10 = sA x8 7 (upd (gA x8 7) v3.toNatClampNeg r9) → rec v2 (v3 + 1) x10))
def qw_D_open_H24  (post : QX → Prop) : Nat → Int32 → Int32 → QX → Prop
  | 0, _, _, _ => False
  | n + 1, v2, v3, x => qw_D_open_S24  post (qw_D_open_H24  post n) v2 v3 x
def qw_D_open (p2 : Int32) (x : QX) (post : QX → Prop) : Prop :=
  qw_D_start x (fun x1 => qw_O_shownIn p2 x1 (fun r3 x2 => ∀ x4 : QX, x4 = sL x2 0 r3 → qw_O_workingIn p2 x4 (fun r6 x5 => ∀ x7 : QX, x7 = sI x5 5 r6 → qw_D_open_H24 post qFU p2 (0 : Int32) x7)))
def qw_S_openDraft  (x : QX) (post : QX → Prop) : Prop :=
  vp_in (gI x 0) 2 ∧ (qw_D_open (gA x 0 (gI x 0).toNatClampNeg) x (fun x1 => post x1))
def qw_S_isIn (p1 : Int32) (p2 : Int64) (x : QX) (post : Int32 → QX → Prop) : Prop :=
  ((p1 < 0) → post (0 : Int32) x) ∧ (¬ (p1 < 0) → (((60 : Int32) ≤ p1) → post (0 : Int32) x) ∧ (¬ ((60 : Int32) ≤ p1) → (((lg_cmp ((p2 >>> (p1.toInt64 &&& 63)) &&& (1 : Int64)) (0 : Int64)) = 0) → post (0 : Int32) x) ∧ (¬ ((lg_cmp ((p2 >>> (p1.toInt64 &&& 63)) &&& (1 : Int64)) (0 : Int64)) = 0) → post (1 : Int32) x)))
def qw_D_shows (p1 : Int32) (x : QX) (post : Int32 → QX → Prop) : Prop :=
  qw_S_isIn p1 (gL x 0) x (fun r2 x1 => vp_nar .boolean r2 = r2 ∧ post r2 x1)
def qw_C_isFull  (x : QX) (post : Int32 → QX → Prop) : Prop :=
  (((gI x 2) < (60 : Int32)) → post (0 : Int32) x) ∧ (¬ ((gI x 2) < (60 : Int32)) → post (1 : Int32) x)
def qw_O_isFull  (x : QX) (post : Int32 → QX → Prop) : Prop :=
  (((gI x 4) < (100 : Int32)) → post (0 : Int32) x) ∧ (¬ ((gI x 4) < (100 : Int32)) → post (1 : Int32) x)
def qw_S_hasRoomForCommit  (x : QX) (post : Int32 → QX → Prop) : Prop :=
  qw_C_isFull x (fun r2 x1 => ((¬ r2 = 0) → post (0 : Int32) x1) ∧ ((r2 = 0) → qw_O_isFull x1 (fun r4 x3 => ((¬ r4 = 0) → post (0 : Int32) x3) ∧ ((r4 = 0) → post (1 : Int32) x3))))
def qw_C_has (p1 : Int32) (x : QX) (post : Int32 → QX → Prop) : Prop :=
  ((p1 < 0) → post (0 : Int32) x) ∧ (¬ (p1 < 0) → (((gI x 2) ≤ p1) → post (0 : Int32) x) ∧ (¬ ((gI x 2) ≤ p1) → post (1 : Int32) x))
def qw_C_start (p1 : Int32) (p2 : Int32) (x : QX) (post : Int32 → QX → Prop) : Prop :=
  post (((p1 * (4 : Int32)) + p2) * (8 : Int32)) x
def qw_C_addCopy (p1 : Int32) (p2 : Int32) (p3 : Int32) (x : QX) (post : Int32 → QX → Prop) : Prop :=
  qw_C_isFull x (fun r2 x1 => ((¬ r2 = 0) → post (-1 : Int32) x1) ∧ ((r2 = 0) → qw_C_has p3 x1 (fun r4 x3 => ((¬ r4 = 0) → ∀ t5 : Int32, t5 = gI x3 2 → ∀ x6 : QX, x6 = sI x3 2 ((gI x3 2) + (1 : Int32)) → vp_in t5 60 ∧ ∀ x7 : QX, x7 = sA x6 2 (upd (gA x6 2) t5.toNatClampNeg p1) → vp_in t5 60 ∧ ∀ x8 : QX, x8 = sA x7 1 (upd (gA x7 1) t5.toNatClampNeg p2) → qw_C_start p3 (0 : Int32) x8 (fun r10 x9 => qw_C_start t5 (0 : Int32) x9 (fun r12 x11 => (¬ r10 < 0) ∧ (¬ r12 < 0) ∧ (¬ (32 : Int32) < 0) ∧ (r10.toNatClampNeg + (32 : Int32).toNatClampNeg ≤ 1920) ∧ (r12.toNatClampNeg + (32 : Int32).toNatClampNeg ≤ 1920) ∧ ∀ x13 : QX, x13 = sB x11 0 (va_cpy (gB x11 0) (gB x11 0) r10.toNatClampNeg r12.toNatClampNeg (32 : Int32).toNatClampNeg) → post t5 x13))) ∧ ((r4 = 0) → post (-1 : Int32) x3))))
def qw_C_addNewChange (p1 : Int32) (x : QX) (post : Int32 → QX → Prop) : Prop :=
  qw_C_isFull x (fun r2 x1 => ((r2 = 0) → ∀ x3 : QX, x3 = sI x1 3 ((gI x1 3) + (1 : Int32)) → qw_C_addCopy (gI x3 3) p1 p1 x3 (fun r5 x4 => post r5 x4)) ∧ (¬ (r2 = 0) → post (-1 : Int32) x1))
def qw_D_show (p1 : Int32) (x : QX) (post : QX → Prop) : Prop :=
  qw_S_bit p1 x (fun r2 x1 => ∀ x3 : QX, x3 = sL x1 0 ((gL x 0) ||| r2) → post x3)
def qw_D_workOn (p1 : Int32) (x : QX) (post : QX → Prop) : Prop :=
  ∀ x1 : QX, x1 = sI x 5 p1 → post x1
def qw_C_parentOf (p1 : Int32) (x : QX) (post : Int32 → QX → Prop) : Prop :=
  qw_C_has p1 x (fun r2 x1 => ((r2 = 0) → post (-1 : Int32) x1) ∧ (¬ (r2 = 0) → vp_in p1 60 ∧ (post (gA x1 1 p1.toNatClampNeg) x1)))
def qw_D_lowestOrphan_S2 (post : Int32 → QX → Prop) (rec : Int32 → QX → Prop) (v1 : Int32) (x : QX) : Prop :=
  (((gI x 2) ≤ v1) → post (-1 : Int32) x) ∧ (¬ ((gI x 2) ≤ v1) → qw_D_shows v1 x (fun r2 x1 => ((r2 = 0) → rec (v1 + 1) x1) ∧ (¬ (r2 = 0) → qw_C_parentOf v1 x1 (fun r4 x3 => qw_D_shows r4 x3 (fun r6 x5 => ((¬ r6 = 0) → rec (v1 + 1) x5) ∧ ((r6 = 0) → post v1 x5))))))
def qw_D_lowestOrphan_H2  (post : Int32 → QX → Prop) : Nat → Int32 → QX → Prop
  | 0, _, _ => False
  | n + 1, v1, x => qw_D_lowestOrphan_S2  post (qw_D_lowestOrphan_H2  post n) v1 x
def qw_D_lowestOrphan  (x : QX) (post : Int32 → QX → Prop) : Prop :=
  qw_D_lowestOrphan_H2 post qFU (1 : Int32) x
def qw_C_withAllThatComesOf_S10 (post : Int64 → QX → Prop) (rec : Int32 → Int64 → Int32 → QX → Prop) (v1 : Int32) (v2 : Int64) (v4 : Int32) (x : QX) : Prop :=
  (((gI x 2) ≤ v4) → post v2 x) ∧ (¬ ((gI x 2) ≤ v4) → qw_C_parentOf v4 x (fun r5 x4 => qw_S_isIn r5 v2 x4 (fun r7 x6 => ((r7 = 0) → rec v1 v2 (v4 + 1) x6) ∧ (¬ (r7 = 0) → qw_S_bit v4 x6 (fun r9 x8 => ∀ t10 : Int64, t10 = v2 ||| r9 → rec v1 t10 (v4 + 1) x8)))))
def qw_C_withAllThatComesOf_H10  (post : Int64 → QX → Prop) : Nat → Int32 → Int64 → Int32 → QX → Prop
  | 0, _, _, _, _ => False
  | n + 1, v1, v2, v4, x => qw_C_withAllThatComesOf_S10  post (qw_C_withAllThatComesOf_H10  post n) v1 v2 v4 x
def qw_C_withAllThatComesOf (p1 : Int32) (x : QX) (post : Int64 → QX → Prop) : Prop :=
  qw_S_bit p1 x (fun r2 x1 => ∀ t3 : Int32, t3 = p1 + (1 : Int32) → qw_C_withAllThatComesOf_H10 post qFU p1 r2 t3 x1)
def qw_C_changeOf (p1 : Int32) (x : QX) (post : Int32 → QX → Prop) : Prop :=
  qw_C_has p1 x (fun r2 x1 => ((r2 = 0) → post (-1 : Int32) x1) ∧ (¬ (r2 = 0) → vp_in p1 60 ∧ (post (gA x1 2 p1.toNatClampNeg) x1)))
def qw_C_latestOfChange_S8 (post : Int32 → QX → Prop) (rec : Int32 → Int64 → Int32 → QX → Prop) (v1 : Int32) (v2 : Int64) (v4 : Int32) (x : QX) : Prop :=
  ((v4 < 0) → post (-1 : Int32) x) ∧ (¬ (v4 < 0) → vp_in v4 60 ∧ (((¬ (gA x 2 v4.toNatClampNeg) = v1) → rec v1 v2 (v4 + (-1)) x) ∧ (((gA x 2 v4.toNatClampNeg) = v1) → qw_S_isIn v4 v2 x (fun r3 x2 => ((r3 = 0) → rec v1 v2 (v4 + (-1)) x2) ∧ (¬ (r3 = 0) → post v4 x2)))))
def qw_C_latestOfChange_H8  (post : Int32 → QX → Prop) : Nat → Int32 → Int64 → Int32 → QX → Prop
  | 0, _, _, _, _ => False
  | n + 1, v1, v2, v4, x => qw_C_latestOfChange_S8  post (qw_C_latestOfChange_H8  post n) v1 v2 v4 x
def qw_C_latestOfChange (p1 : Int32) (p2 : Int64) (x : QX) (post : Int32 → QX → Prop) : Prop :=
  ∀ t1 : Int32, t1 = (gI x 2) - (1 : Int32) → qw_C_latestOfChange_H8 post qFU p1 p2 t1 x
def qw_D_nextTowardsPlace (p1 : Int32) (p2 : Int64) (x : QX) (post : Int32 → QX → Prop) : Prop :=
  qw_C_has p1 x (fun r2 x1 => ((¬ r2 = 0) → vp_in p1 60 ∧ ((((gA x1 8 p1.toNatClampNeg) = (-1 : Int32)) → qw_C_changeOf p1 x1 (fun r4 x3 => qw_C_latestOfChange r4 p2 x3 (fun r6 x5 => ((r6 = (-1 : Int32)) → qw_C_parentOf p1 x5 (fun r8 x7 => post r8 x7)) ∧ (¬ (r6 = (-1 : Int32)) → post r6 x5)))) ∧ (¬ ((gA x1 8 p1.toNatClampNeg) = (-1 : Int32)) → vp_in p1 60 ∧ (post (gA x1 8 p1.toNatClampNeg) x1)))) ∧ ((r2 = 0) → post (0 : Int32) x1))
def qw_D_placeOf_S6 (post : Int32 → QX → Prop) (rec : Int32 → Int64 → Int32 → Int32 → QX → Prop) (v1 : Int32) (v2 : Int64) (v4 : Int32) (v5 : Int32) (x : QX) : Prop :=
  (((120 : Int32) ≤ v5) → qw_D_shows v4 x (fun r2 x1 => ((r2 = 0) → post (0 : Int32) x1) ∧ (¬ (r2 = 0) → post v4 x1))) ∧ (¬ ((120 : Int32) ≤ v5) → qw_D_shows v4 x (fun r4 x3 => ((¬ r4 = 0) → qw_D_shows v4 x3 (fun r6 x5 => ((r6 = 0) → post (0 : Int32) x5) ∧ (¬ (r6 = 0) → post v4 x5))) ∧ ((r4 = 0) → qw_D_nextTowardsPlace v4 v2 x3 (fun r8 x7 => rec v1 v2 r8 (v5 + 1) x7))))
def qw_D_placeOf_H6  (post : Int32 → QX → Prop) : Nat → Int32 → Int64 → Int32 → Int32 → QX → Prop
  | 0, _, _, _, _, _ => False
  | n + 1, v1, v2, v4, v5, x => qw_D_placeOf_S6  post (qw_D_placeOf_H6  post n) v1 v2 v4 v5 x
def qw_D_placeOf (p1 : Int32) (p2 : Int64) (x : QX) (post : Int32 → QX → Prop) : Prop :=
  qw_D_placeOf_H6 post qFU p1 p2 p1 (0 : Int32) x
def qw_S_isPath (p1 : Int32) (x : QX) (post : Int32 → QX → Prop) : Prop :=
  ((p1 < 0) → post (0 : Int32) x) ∧ (¬ (p1 < 0) → (((4 : Int32) ≤ p1) → post (0 : Int32) x) ∧ (¬ ((4 : Int32) ≤ p1) → post (1 : Int32) x))
def qw_S_isValue (p1 : Int32) (x : QX) (post : Int32 → QX → Prop) : Prop :=
  ((p1 < 0) → post (0 : Int32) x) ∧ (¬ (p1 < 0) → (((8 : Int32) ≤ p1) → post (0 : Int32) x) ∧ (¬ ((8 : Int32) ≤ p1) → post (1 : Int32) x))
def qw_C_makePlain_S26 (post : QX → Prop) (rec : Int32 → Int32 → Int32 → Int32 → QX → Prop) (v1 : Int32) (v2 : Int32) (v3 : Int32) (v4 : Int32) (x : QX) : Prop :=
  (((8 : Int32) ≤ v4) → post x) ∧ (¬ ((8 : Int32) ≤ v4) → qw_C_start v1 v2 x (fun r8 x7 => ((¬ v4 = v3) → vp_in (r8 + v4) 1920 ∧ ∀ x9 : QX, x9 = sB x7 0 (vp_updL (gB x7 0) (r8 + v4).toNatClampNeg (0 : Int64)) → rec v1 v2 v3 (v4 + 1) x9) ∧ ((v4 = v3) → vp_in (r8 + v4) 1920 ∧ ∀ x10 : QX, x10 = sB x7 0 (vp_updL (gB x7 0) (r8 + v4).toNatClampNeg (1 : Int64)) → rec v1 v2 v3 (v4 + 1) x10)))
def qw_C_makePlain_H26  (post : QX → Prop) : Nat → Int32 → Int32 → Int32 → Int32 → QX → Prop
  | 0, _, _, _, _, _ => False
  | n + 1, v1, v2, v3, v4, x => qw_C_makePlain_S26  post (qw_C_makePlain_H26  post n) v1 v2 v3 v4 x
def qw_C_makePlain (p1 : Int32) (p2 : Int32) (p3 : Int32) (x : QX) (post : QX → Prop) : Prop :=
  qw_C_has p1 x (fun r2 x1 => ((r2 = 0) → post x1) ∧ (¬ (r2 = 0) → qw_S_isPath p2 x1 (fun r4 x3 => ((r4 = 0) → post x3) ∧ (¬ (r4 = 0) → qw_S_isValue p3 x3 (fun r6 x5 => ((¬ r6 = 0) → qw_C_makePlain_H26 post qFU p1 p2 p3 (0 : Int32) x5) ∧ ((r6 = 0) → post x5))))))
def qw_C_addDifference_S9 (post : QX → Prop) (rec : Int32 → Int32 → Int32 → Int32 → Int32 → Int32 → Int32 → QX → Prop) (v1 : Int32) (v2 : Int32) (v3 : Int32) (v4 : Int32) (v5 : Int32) (v6 : Int32) (v7 : Int32) (x : QX) : Prop :=
  (((8 : Int32) ≤ v7) → ((¬ v5 = (2 : Int32)) → post x) ∧ ((v5 = (2 : Int32)) → qw_C_makePlain v1 v2 v6 x (fun x1 => post x1))) ∧ (¬ ((8 : Int32) ≤ v7) → qw_C_start v1 v2 x (fun r3 x2 => ∀ t4 : Int32, t4 = r3 + v7 → vp_in t4 1920 ∧ (qw_C_start v3 v2 x2 (fun r6 x5 => vp_in (r6 + v7) 1920 ∧ (qw_C_start v4 v2 x5 (fun r8 x7 => vp_in (r8 + v7) 1920 ∧ (vp_in t4 1920 ∧ ∀ x9 : QX, x9 = sB x7 0 (vp_updL (gB x7 0) t4.toNatClampNeg ((gB x2 0 t4.toNatClampNeg) + ((gB x5 0 (r6 + v7).toNatClampNeg) - (gB x7 0 (r8 + v7).toNatClampNeg)))) → vp_in t4 1920 ∧ ((((lg_cmp (gB x9 0 t4.toNatClampNeg) (0 : Int64)) = 0) → ∀ t10 : Int32, t10 = v5 + (0 : Int32) → vp_in t4 1920 ∧ ((((lg_cmp (gB x9 0 t4.toNatClampNeg) (0 : Int64)) ≤ 0) → rec v1 v2 v3 v4 t10 v6 (v7 + 1) x9) ∧ (¬ ((lg_cmp (gB x9 0 t4.toNatClampNeg) (0 : Int64)) ≤ 0) → rec v1 v2 v3 v4 t10 v7 (v7 + 1) x9))) ∧ (¬ ((lg_cmp (gB x9 0 t4.toNatClampNeg) (0 : Int64)) = 0) → ∀ t11 : Int32, t11 = v5 + (1 : Int32) → vp_in t4 1920 ∧ ((((lg_cmp (gB x9 0 t4.toNatClampNeg) (0 : Int64)) ≤ 0) → rec v1 v2 v3 v4 t11 v6 (v7 + 1) x9) ∧ (¬ ((lg_cmp (gB x9 0 t4.toNatClampNeg) (0 : Int64)) ≤ 0) → rec v1 v2 v3 v4 t11 v7 (v7 + 1) x9)))))))))))
def qw_C_addDifference_H9  (post : QX → Prop) : Nat → Int32 → Int32 → Int32 → Int32 → Int32 → Int32 → Int32 → QX → Prop
  | 0, _, _, _, _, _, _, _, _ => False
  | n + 1, v1, v2, v3, v4, v5, v6, v7, x => qw_C_addDifference_S9  post (qw_C_addDifference_H9  post n) v1 v2 v3 v4 v5 v6 v7 x
def qw_C_addDifference (p1 : Int32) (p2 : Int32) (p3 : Int32) (p4 : Int32) (x : QX) (post : QX → Prop) : Prop :=
  qw_C_addDifference_H9 post qFU p1 p2 p3 p4 (0 : Int32) (0 : Int32) (0 : Int32) x
def qw_C_addMoved_S47 (post : Int32 → QX → Prop) (rec : Int32 → Int32 → Int32 → Int32 → Int32 → QX → Prop) (v1 : Int32) (v2 : Int32) (v3 : Int32) (v4 : Int32) (v5 : Int32) (x : QX) : Prop :=
  (((4 : Int32) ≤ v5) → post v4 x) ∧ (¬ ((4 : Int32) ≤ v5) → qw_C_addDifference v4 v5 v2 v3 x (fun x13 => rec v1 v2 v3 v4 (v5 + 1) x13))
def qw_C_addMoved_H47  (post : Int32 → QX → Prop) : Nat → Int32 → Int32 → Int32 → Int32 → Int32 → QX → Prop
  | 0, _, _, _, _, _, _ => False
  | n + 1, v1, v2, v3, v4, v5, x => qw_C_addMoved_S47  post (qw_C_addMoved_H47  post n) v1 v2 v3 v4 v5 x
def qw_C_addMoved (p1 : Int32) (p2 : Int32) (x : QX) (post : Int32 → QX → Prop) : Prop :=
  qw_C_parentOf p1 x (fun r2 x1 => qw_C_isFull x1 (fun r4 x3 => ((¬ r4 = 0) → post (-1 : Int32) x3) ∧ ((r4 = 0) → qw_C_has p2 x3 (fun r6 x5 => ((r6 = 0) → post (-1 : Int32) x5) ∧ (¬ (r6 = 0) → qw_C_has r2 x5 (fun r8 x7 => ((¬ r8 = 0) → qw_C_changeOf p1 x7 (fun r10 x9 => qw_C_addCopy r10 p2 p1 x9 (fun r12 x11 => qw_C_addMoved_H47 post qFU p1 p2 r2 r12 (0 : Int32) x11))) ∧ ((r8 = 0) → post (-1 : Int32) x7)))))))
def qw_D_replace (p1 : Int32) (p2 : Int32) (x : QX) (post : QX → Prop) : Prop :=
  qw_C_has p1 x (fun r2 x1 => ((r2 = 0) → post x1) ∧ (¬ (r2 = 0) → qw_C_has p2 x1 (fun r4 x3 => ((¬ r4 = 0) → qw_S_bit p1 x3 (fun r6 x5 => ∀ x7 : QX, x7 = sL x5 0 ((gL x3 0) &&& (r6 ^^^ (-1 : Int64))) → qw_D_show p2 x7 (fun x8 => vp_in p1 60 ∧ ∀ x9 : QX, x9 = sA x8 8 (upd (gA x8 8) p1.toNatClampNeg p2) → post x9))) ∧ ((r4 = 0) → post x3))))
def qw_D_settleCommits_S2 (post : Int32 → QX → Prop) (rec : Int32 → QX → Prop) (v1 : Int32) (x : QX) : Prop :=
  (((60 : Int32) ≤ v1) → post (0 : Int32) x) ∧ (¬ ((60 : Int32) ≤ v1) → qw_D_lowestOrphan x (fun r2 x1 => ((¬ r2 = (-1 : Int32)) → qw_C_isFull x1 (fun r4 x3 => ((r4 = 0) → qw_C_withAllThatComesOf r2 x3 (fun r6 x5 => ∀ t7 : Int64, t7 = (gL x3 0) &&& (r6 ^^^ (-1 : Int64)) → qw_C_parentOf r2 x5 (fun r9 x8 => qw_D_placeOf r9 t7 x8 (fun r11 x10 => qw_C_addMoved r2 r11 x10 (fun r13 x12 => qw_D_replace r2 r13 x12 (fun x14 => rec (v1 + 1) x14)))))) ∧ (¬ (r4 = 0) → post (0 : Int32) x3))) ∧ ((r2 = (-1 : Int32)) → post (1 : Int32) x1)))
def qw_D_settleCommits_H2  (post : Int32 → QX → Prop) : Nat → Int32 → QX → Prop
  | 0, _, _ => False
  | n + 1, v1, x => qw_D_settleCommits_S2  post (qw_D_settleCommits_H2  post n) v1 x
def qw_D_settleCommits  (x : QX) (post : Int32 → QX → Prop) : Prop :=
  qw_D_settleCommits_H2 post qFU (0 : Int32) x
def qw_C_dropFrom (p1 : Int32) (x : QX) (post : QX → Prop) : Prop :=
  ∀ x1 : QX, x1 = sI x 2 p1 → post x1
def qw_D_settlePointers_S18 (post : QX → Prop) (rec : Int32 → QX → Prop) (v1 : Int32) (x : QX) : Prop :=
  (((3 : Int32) ≤ v1) → post x) ∧ (¬ ((3 : Int32) ≤ v1) → vp_in v1 3 ∧ (qw_C_has (gA x 7 v1.toNatClampNeg) x (fun r5 x4 => ((r5 = 0) → rec (v1 + 1) x4) ∧ (¬ (r5 = 0) → vp_in v1 3 ∧ (qw_D_placeOf (gA x4 7 v1.toNatClampNeg) (gL x4 0) x4 (fun r7 x6 => vp_in v1 3 ∧ ∀ x8 : QX, x8 = sA x6 7 (upd (gA x6 7) v1.toNatClampNeg r7) → rec (v1 + 1) x8))))))
def qw_D_settlePointers_H18  (post : QX → Prop) : Nat → Int32 → QX → Prop
  | 0, _, _ => False
  | n + 1, v1, x => qw_D_settlePointers_S18  post (qw_D_settlePointers_H18  post n) v1 x
def qw_D_settlePointers  (x : QX) (post : QX → Prop) : Prop :=
  qw_D_placeOf (gI x 5) (gL x 0) x (fun r2 x1 => ∀ x3 : QX, x3 = sI x1 5 r2 → qw_D_settlePointers_H18 post qFU (0 : Int32) x3)
def qw_O_add (p2 : Int32) (p3 : Int32) (x : QX) (post : Int32 → QX → Prop) : Prop :=
  qw_O_isFull x (fun r2 x1 => ((r2 = 0) → ∀ t3 : Int32, t3 = gI x1 4 → ∀ x4 : QX, x4 = sI x1 4 ((gI x1 4) + (1 : Int32)) → vp_in t3 100 ∧ ∀ x5 : QX, x5 = sA x4 3 (upd (gA x4 3) t3.toNatClampNeg p2) → vp_in t3 100 ∧ ∀ x6 : QX, x6 = sA x5 4 (upd (gA x5 4) t3.toNatClampNeg p3) → vp_in t3 100 ∧ ∀ x7 : QX, x7 = sB x6 1 (vp_updL (gB x6 1) t3.toNatClampNeg (gL x6 0)) → vp_in t3 100 ∧ ∀ x8 : QX, x8 = sA x7 5 (upd (gA x7 5) t3.toNatClampNeg (gI x7 5)) → (¬ (0 : Int32) < 0) ∧ (¬ (t3 * (3 : Int32)) < 0) ∧ (¬ (3 : Int32) < 0) ∧ ((0 : Int32).toNatClampNeg + (3 : Int32).toNatClampNeg ≤ 3) ∧ ((t3 * (3 : Int32)).toNatClampNeg + (3 : Int32).toNatClampNeg ≤ 300) ∧ ∀ x9 : QX, x9 = sA x8 6 (va_cpy (gA x8 7) (gA x8 6) (0 : Int32).toNatClampNeg (t3 * (3 : Int32)).toNatClampNeg (3 : Int32).toNatClampNeg) → post t3 x9) ∧ (¬ (r2 = 0) → post (-3 : Int32) x1))
def qw_S_keepDraft (p1 : Int32) (p2 : Int32) (x : QX) (post : Int32 → QX → Prop) : Prop :=
  qw_O_isFull x (fun r2 x1 => ((¬ r2 = 0) → qw_C_dropFrom (gI x1 6) x1 (fun x3 => post (-3 : Int32) x3)) ∧ ((r2 = 0) → qw_D_settleCommits x1 (fun r5 x4 => ((¬ r5 = 0) → qw_D_settlePointers x4 (fun x6 => vp_in p1 2 ∧ (qw_O_add (gA x6 0 p1.toNatClampNeg) p2 x6 (fun r8 x7 => vp_in p1 2 ∧ ∀ x9 : QX, x9 = sA x7 0 (upd (gA x7 0) p1.toNatClampNeg r8) → post r8 x9)))) ∧ ((r5 = 0) → qw_C_dropFrom (gI x4 6) x4 (fun x10 => post (-3 : Int32) x10)))))
def qw_S_create (p1 : Int32) (x : QX) (post : Int32 → QX → Prop) : Prop :=
  qw_S_openDraft x (fun x1 => qw_D_shows p1 x1 (fun r3 x2 => ((¬ r3 = 0) → qw_S_hasRoomForCommit x2 (fun r5 x4 => ((¬ r5 = 0) → qw_C_addNewChange p1 x4 (fun r7 x6 => qw_D_show r7 x6 (fun x8 => qw_D_workOn r7 x8 (fun x9 => qw_S_keepDraft (gI x9 0) (-1 : Int32) x9 (fun r11 x10 => post r11 x10))))) ∧ ((r5 = 0) → post (-3 : Int32) x4))) ∧ ((r3 = 0) → post (-1 : Int32) x2)))
def qw_C_countOf (p1 : Int32) (p2 : Int32) (p3 : Int32) (x : QX) (post : Int64 → QX → Prop) : Prop :=
  qw_C_has p1 x (fun r2 x1 => ((r2 = 0) → post (0 : Int64) x1) ∧ (¬ (r2 = 0) → qw_S_isPath p2 x1 (fun r4 x3 => ((r4 = 0) → post (0 : Int64) x3) ∧ (¬ (r4 = 0) → qw_S_isValue p3 x3 (fun r6 x5 => ((r6 = 0) → post (0 : Int64) x5) ∧ (¬ (r6 = 0) → qw_C_start p1 p2 x5 (fun r8 x7 => vp_in (r8 + p3) 1920 ∧ (post (gB x7 0 (r8 + p3).toNatClampNeg) x7))))))))
def qw_C_isPlain_S3 (post : Int32 → QX → Prop) (rec : Int32 → Int32 → Int32 → Int32 → QX → Prop) (v1 : Int32) (v2 : Int32) (v3 : Int32) (v4 : Int32) (x : QX) : Prop :=
  (((8 : Int32) ≤ v4) → post (1 : Int32) x) ∧ (¬ ((8 : Int32) ≤ v4) → qw_C_countOf v1 v2 v4 x (fun r2 x1 => ((¬ v4 = v3) → (((lg_cmp r2 ((0 : Int32).toInt64)) = 0) → rec v1 v2 v3 (v4 + 1) x1) ∧ (¬ ((lg_cmp r2 ((0 : Int32).toInt64)) = 0) → post (0 : Int32) x1)) ∧ ((v4 = v3) → (((lg_cmp r2 ((1 : Int32).toInt64)) = 0) → rec v1 v2 v3 (v4 + 1) x1) ∧ (¬ ((lg_cmp r2 ((1 : Int32).toInt64)) = 0) → post (0 : Int32) x1))))
def qw_C_isPlain_H3  (post : Int32 → QX → Prop) : Nat → Int32 → Int32 → Int32 → Int32 → QX → Prop
  | 0, _, _, _, _, _ => False
  | n + 1, v1, v2, v3, v4, x => qw_C_isPlain_S3  post (qw_C_isPlain_H3  post n) v1 v2 v3 v4 x
def qw_C_isPlain (p1 : Int32) (p2 : Int32) (p3 : Int32) (x : QX) (post : Int32 → QX → Prop) : Prop :=
  qw_C_isPlain_H3 post qFU p1 p2 p3 (0 : Int32) x
def qw_S_write (p1 : Int32) (p2 : Int32) (x : QX) (post : Int32 → QX → Prop) : Prop :=
  qw_S_openDraft x (fun x1 => ∀ t2 : Int32, t2 = gI x1 5 → ((t2 = 0) → post (-1 : Int32) x1) ∧ (¬ (t2 = 0) → qw_S_isPath p1 x1 (fun r4 x3 => ((r4 = 0) → post (-1 : Int32) x3) ∧ (¬ (r4 = 0) → qw_S_isValue p2 x3 (fun r6 x5 => ((¬ r6 = 0) → qw_C_isPlain t2 p1 p2 x5 (fun r8 x7 => ((r8 = 0) → qw_S_hasRoomForCommit x7 (fun r10 x9 => ((¬ r10 = 0) → qw_C_changeOf t2 x9 (fun r12 x11 => qw_C_parentOf t2 x11 (fun r14 x13 => qw_C_addCopy r12 r14 t2 x13 (fun r16 x15 => qw_C_makePlain r16 p1 p2 x15 (fun x17 => qw_D_replace t2 r16 x17 (fun x18 => qw_S_keepDraft (gI x18 0) (-1 : Int32) x18 (fun r20 x19 => post r20 x19))))))) ∧ ((r10 = 0) → post (-3 : Int32) x9))) ∧ (¬ (r8 = 0) → post (-2 : Int32) x7))) ∧ ((r6 = 0) → post (-1 : Int32) x5))))))
def qw_S_isReplaceable (p1 : Int32) (x : QX) (post : Int32 → QX → Prop) : Prop :=
  ((p1 = 0) → post (0 : Int32) x) ∧ (¬ (p1 = 0) → qw_D_shows p1 x (fun r2 x1 => ((r2 = 0) → post (0 : Int32) x1) ∧ (¬ (r2 = 0) → post (1 : Int32) x1)))
def qw_S_rebase (p1 : Int32) (p2 : Int32) (x : QX) (post : Int32 → QX → Prop) : Prop :=
  qw_S_openDraft x (fun x1 => qw_S_isReplaceable p1 x1 (fun r3 x2 => ((r3 = 0) → post (-1 : Int32) x2) ∧ (¬ (r3 = 0) → qw_D_shows p2 x2 (fun r5 x4 => ((r5 = 0) → post (-1 : Int32) x4) ∧ (¬ (r5 = 0) → qw_C_withAllThatComesOf p1 x4 (fun r7 x6 => qw_S_isIn p2 r7 x6 (fun r9 x8 => ((r9 = 0) → qw_C_parentOf p1 x8 (fun r11 x10 => ((¬ r11 = p2) → qw_S_hasRoomForCommit x10 (fun r13 x12 => ((¬ r13 = 0) → qw_C_addMoved p1 p2 x12 (fun r15 x14 => qw_D_replace p1 r15 x14 (fun x16 => qw_S_keepDraft (gI x16 0) (-1 : Int32) x16 (fun r18 x17 => post r18 x17)))) ∧ ((r13 = 0) → post (-3 : Int32) x12))) ∧ ((r11 = p2) → post (-2 : Int32) x10))) ∧ (¬ (r9 = 0) → post (-1 : Int32) x8))))))))
def qw_S_abandon (p1 : Int32) (x : QX) (post : Int32 → QX → Prop) : Prop :=
  qw_S_openDraft x (fun x1 => qw_S_isReplaceable p1 x1 (fun r3 x2 => ((¬ r3 = 0) → qw_C_parentOf p1 x2 (fun r5 x4 => qw_D_replace p1 r5 x4 (fun x6 => qw_S_keepDraft (gI x6 0) (-1 : Int32) x6 (fun r8 x7 => post r8 x7)))) ∧ ((r3 = 0) → post (-1 : Int32) x2)))
def qw_S_squash (p1 : Int32) (x : QX) (post : Int32 → QX → Prop) : Prop :=
  qw_S_openDraft x (fun x1 => qw_S_isReplaceable p1 x1 (fun r3 x2 => ((r3 = 0) → post (-1 : Int32) x2) ∧ (¬ (r3 = 0) → qw_C_parentOf p1 x2 (fun r5 x4 => ((¬ r5 = 0) → qw_S_hasRoomForCommit x4 (fun r7 x6 => ((¬ r7 = 0) → qw_C_parentOf p1 x6 (fun r9 x8 => qw_C_changeOf r9 x8 (fun r11 x10 => qw_C_parentOf r9 x10 (fun r13 x12 => qw_C_addCopy r11 r13 p1 x12 (fun r15 x14 => qw_D_replace p1 r15 x14 (fun x16 => qw_D_replace r9 r15 x16 (fun x17 => qw_S_keepDraft (gI x17 0) (-1 : Int32) x17 (fun r19 x18 => post r19 x18)))))))) ∧ ((r7 = 0) → post (-3 : Int32) x6))) ∧ ((r5 = 0) → post (-1 : Int32) x4)))))
def qw_S_edit (p1 : Int32) (x : QX) (post : Int32 → QX → Prop) : Prop :=
  qw_S_openDraft x (fun x1 => qw_D_shows p1 x1 (fun r3 x2 => ((¬ r3 = 0) → ((¬ (gI x2 5) = p1) → qw_D_workOn p1 x2 (fun x4 => qw_S_keepDraft (gI x4 0) (-1 : Int32) x4 (fun r6 x5 => post r6 x5))) ∧ (((gI x2 5) = p1) → post (-2 : Int32) x2)) ∧ ((r3 = 0) → post (-1 : Int32) x2)))
def qw_S_mark (p1 : Int32) (p2 : Int32) (x : QX) (post : Int32 → QX → Prop) : Prop :=
  qw_S_openDraft x (fun x1 => qw_S_isMark p1 x1 (fun r3 x2 => ((r3 = 0) → post (-1 : Int32) x2) ∧ (¬ (r3 = 0) → ((p2 = (-1 : Int32)) → vp_in p1 3 ∧ (((¬ (gA x2 7 p1.toNatClampNeg) = p2) → vp_in p1 3 ∧ ∀ x4 : QX, x4 = sA x2 7 (upd (gA x2 7) p1.toNatClampNeg p2) → qw_S_keepDraft (gI x4 0) (-1 : Int32) x4 (fun r6 x5 => post r6 x5)) ∧ (((gA x2 7 p1.toNatClampNeg) = p2) → post (-2 : Int32) x2))) ∧ (¬ (p2 = (-1 : Int32)) → qw_D_shows p2 x2 (fun r8 x7 => ((¬ r8 = 0) → vp_in p1 3 ∧ (((¬ (gA x7 7 p1.toNatClampNeg) = p2) → vp_in p1 3 ∧ ∀ x9 : QX, x9 = sA x7 7 (upd (gA x7 7) p1.toNatClampNeg p2) → qw_S_keepDraft (gI x9 0) (-1 : Int32) x9 (fun r11 x10 => post r11 x10)) ∧ (((gA x7 7 p1.toNatClampNeg) = p2) → post (-2 : Int32) x7))) ∧ ((r8 = 0) → post (-1 : Int32) x7))))))
def qw_O_firstBefore (p1 : Int32) (x : QX) (post : Int32 → QX → Prop) : Prop :=
  qw_O_has p1 x (fun r2 x1 => ((r2 = 0) → post (-1 : Int32) x1) ∧ (¬ (r2 = 0) → vp_in p1 100 ∧ (post (gA x1 3 p1.toNatClampNeg) x1)))
def qw_O_secondBefore (p1 : Int32) (x : QX) (post : Int32 → QX → Prop) : Prop :=
  qw_O_has p1 x (fun r2 x1 => ((r2 = 0) → post (-1 : Int32) x1) ∧ (¬ (r2 = 0) → vp_in p1 100 ∧ (post (gA x1 4 p1.toNatClampNeg) x1)))
def qw_S_undo  (x : QX) (post : Int32 → QX → Prop) : Prop :=
  vp_in (gI x 0) 2 ∧ (∀ t1 : Int32, t1 = gA x 0 (gI x 0).toNatClampNeg → qw_O_firstBefore t1 x (fun r3 x2 => qw_O_secondBefore t1 x2 (fun r5 x4 => ((r5 = (-1 : Int32)) → ((r3 = (-1 : Int32)) → post (-1 : Int32) x4) ∧ (¬ (r3 = (-1 : Int32)) → (((0 : Int32) = 0) → qw_D_open r3 x4 (fun x6 => qw_S_keepDraft (gI x6 0) (-1 : Int32) x6 (fun r8 x7 => post r8 x7))) ∧ (¬ ((0 : Int32) = 0) → post (-1 : Int32) x4))) ∧ (¬ (r5 = (-1 : Int32)) → ((r3 = (-1 : Int32)) → post (-1 : Int32) x4) ∧ (¬ (r3 = (-1 : Int32)) → (((1 : Int32) = 0) → qw_D_open r3 x4 (fun x9 => qw_S_keepDraft (gI x9 0) (-1 : Int32) x9 (fun r11 x10 => post r11 x10))) ∧ (¬ ((1 : Int32) = 0) → post (-1 : Int32) x4))))))
def qw_S_restore (p1 : Int32) (x : QX) (post : Int32 → QX → Prop) : Prop :=
  qw_O_has p1 x (fun r2 x1 => ((¬ r2 = 0) → qw_D_open p1 x1 (fun x3 => qw_S_keepDraft (gI x3 0) (-1 : Int32) x3 (fun r5 x4 => post r5 x4))) ∧ ((r2 = 0) → post (-1 : Int32) x1))
def qw_S_hasLineOne  (x : QX) (post : Int32 → QX → Prop) : Prop :=
  vp_in (1 : Int32) 2 ∧ ((((gA x 0 (1 : Int32).toNatClampNeg) = (-1 : Int32)) → post (0 : Int32) x) ∧ (¬ ((gA x 0 (1 : Int32).toNatClampNeg) = (-1 : Int32)) → post (1 : Int32) x))
def qw_S_fork (p1 : Int32) (x : QX) (post : Int32 → QX → Prop) : Prop :=
  qw_S_hasLineOne x (fun r2 x1 => ((¬ r2 = 0) → post (0 : Int32) x1) ∧ ((r2 = 0) → qw_O_has p1 x1 (fun r4 x3 => ((¬ r4 = 0) → ∀ x5 : QX, x5 = sI x3 1 p1 → vp_in (1 : Int32) 2 ∧ ∀ x6 : QX, x6 = sA x5 0 (upd (gA x5 0) (1 : Int32).toNatClampNeg p1) → ∀ x7 : QX, x7 = sI x6 0 (1 : Int32) → post (1 : Int32) x7) ∧ ((r4 = 0) → post (0 : Int32) x3))))
def qw_S_choose (p1 : Int32) (x : QX) (post : Int32 → QX → Prop) : Prop :=
  ((p1 = 0) → (((1 : Int32) = 0) → post (1 : Int32) x) ∧ (¬ ((1 : Int32) = 0) → ∀ x1 : QX, x1 = sI x 0 p1 → post (1 : Int32) x1)) ∧ (¬ (p1 = 0) → ((¬ p1 = (1 : Int32)) → (((0 : Int32) = 0) → post (0 : Int32) x) ∧ (¬ ((0 : Int32) = 0) → ∀ x2 : QX, x2 = sI x 0 p1 → post (0 : Int32) x2)) ∧ ((p1 = (1 : Int32)) → qw_S_hasLineOne x (fun r4 x3 => ((r4 = 0) → (((0 : Int32) = 0) → post (0 : Int32) x3) ∧ (¬ ((0 : Int32) = 0) → ∀ x5 : QX, x5 = sI x3 0 p1 → post (0 : Int32) x5)) ∧ (¬ (r4 = 0) → (((1 : Int32) = 0) → post (1 : Int32) x3) ∧ (¬ ((1 : Int32) = 0) → ∀ x6 : QX, x6 = sI x3 0 p1 → post (1 : Int32) x6)))))
def qw_D_joinedMark (p1 : Int32) (p2 : Int32) (p3 : Int32) (x : QX) (post : Int32 → QX → Prop) : Prop :=
  ((¬ p2 = p1) → ((p3 = p1) → post p2 x) ∧ (¬ (p3 = p1) → ((¬ p3 = p2) → post (-2 : Int32) x) ∧ ((p3 = p2) → post p2 x))) ∧ ((p2 = p1) → post p3 x)
def qw_D_openJoined_S79 (post : QX → Prop) (rec : Int32 → Int32 → Int32 → Int64 → Int64 → Int32 → Int32 → QX → Prop) (v2 : Int32) (v3 : Int32) (v4 : Int32) (v5 : Int64) (v7 : Int64) (v9 : Int32) (v10 : Int32) (x : QX) : Prop :=
  (((3 : Int32) ≤ v10) → post x) ∧ (¬ ((3 : Int32) ≤ v10) → qw_O_markIn v2 v10 x (fun r15 x14 => qw_O_markIn v3 v10 x14 (fun r17 x16 => qw_O_markIn v4 v10 x16 (fun r19 x18 => qw_D_joinedMark r15 r17 r19 x18 (fun r21 x20 => vp_in v10 3 ∧ ∀ x22 : QX, x22 = sA x20 7 (upd (gA x20 7) v10.toNatClampNeg r21) → rec v2 v3 v4 v5 v7 v9 (v10 + 1) x22)))))
def qw_D_openJoined_H79  (post : QX → Prop) : Nat → Int32 → Int32 → Int32 → Int64 → Int64 → Int32 → Int32 → QX → Prop
  | 0, _, _, _, _, _, _, _, _ => False
  | n + 1, v2, v3, v4, v5, v7, v9, v10, x => qw_D_openJoined_S79  post (qw_D_openJoined_H79  post n) v2 v3 v4 v5 v7 v9 v10 x
def qw_D_openJoined (p2 : Int32) (p3 : Int32) (p4 : Int32) (x : QX) (post : QX → Prop) : Prop :=
  qw_D_start x (fun x1 => qw_O_shownIn p3 x1 (fun r3 x2 => qw_O_shownIn p4 x2 (fun r5 x4 => qw_O_shownIn p2 x4 (fun r7 x6 => ∀ x8 : QX, x8 = sL x6 0 ((r3 &&& r5) ||| ((r3 ||| r5) &&& (r7 ^^^ (-1 : Int64)))) → qw_O_workingIn p3 x8 (fun r10 x9 => qw_O_workingIn p2 x9 (fun r12 x11 => ((¬ r10 = r12) → ∀ x13 : QX, x13 = sI x11 5 r10 → qw_D_openJoined_H79 post qFU p2 p3 p4 r3 r5 r10 (0 : Int32) x13) ∧ ((r10 = r12) → qw_O_workingIn p4 x11 (fun r24 x23 => ∀ x25 : QX, x25 = sI x23 5 r24 → qw_D_openJoined_H79 post qFU p2 p3 p4 r3 r5 r10 (0 : Int32) x25))))))))
def qw_S_join  (x : QX) (post : Int32 → QX → Prop) : Prop :=
  qw_S_hasLineOne x (fun r2 x1 => ((¬ r2 = 0) → vp_in (0 : Int32) 2 ∧ (vp_in (1 : Int32) 2 ∧ (qw_D_openJoined (gI x1 1) (gA x1 0 (0 : Int32).toNatClampNeg) (gA x1 0 (1 : Int32).toNatClampNeg) x1 (fun x3 => vp_in (1 : Int32) 2 ∧ (qw_S_keepDraft (0 : Int32) (gA x3 0 (1 : Int32).toNatClampNeg) x3 (fun r5 x4 => ((r5 = (-3 : Int32)) → post r5 x4) ∧ (¬ (r5 = (-3 : Int32)) → vp_in (1 : Int32) 2 ∧ ∀ x6 : QX, x6 = sA x4 0 (upd (gA x4 0) (1 : Int32).toNatClampNeg (-1 : Int32)) → ∀ x7 : QX, x7 = sI x6 1 (-1 : Int32) → ∀ x8 : QX, x8 = sI x7 0 (0 : Int32) → post r5 x8))))))) ∧ ((r2 = 0) → post (-1 : Int32) x1))
def qw_S_operation  (x : QX) (post : Int32 → QX → Prop) : Prop :=
  vp_in (gI x 0) 2 ∧ (post (gA x 0 (gI x 0).toNatClampNeg) x)
def qw_S_before (p1 : Int32) (p2 : Int32) (x : QX) (post : Int32 → QX → Prop) : Prop :=
  ((¬ p2 = 0) → ((¬ p2 = (1 : Int32)) → post (-1 : Int32) x) ∧ ((p2 = (1 : Int32)) → qw_O_secondBefore p1 x (fun r2 x1 => post r2 x1))) ∧ ((p2 = 0) → qw_O_firstBefore p1 x (fun r4 x3 => post r4 x3))
def qw_S_visible (p1 : Int32) (p2 : Int32) (x : QX) (post : Int32 → QX → Prop) : Prop :=
  qw_O_shownIn p1 x (fun r2 x1 => qw_S_isIn p2 r2 x1 (fun r4 x3 => vp_nar .boolean r4 = r4 ∧ post r4 x3))
def qw_S_working (p1 : Int32) (x : QX) (post : Int32 → QX → Prop) : Prop :=
  qw_O_workingIn p1 x (fun r2 x1 => post r2 x1)
def qw_S_marked (p1 : Int32) (p2 : Int32) (x : QX) (post : Int32 → QX → Prop) : Prop :=
  qw_O_markIn p1 p2 x (fun r2 x1 => post r2 x1)
def qw_C_parentsOf_S5 (post : Int64 → QX → Prop) (rec : Int64 → Int64 → Int32 → QX → Prop) (v1 : Int64) (v3 : Int64) (v5 : Int32) (x : QX) : Prop :=
  (((gI x 2) ≤ v5) → post v3 x) ∧ (¬ ((gI x 2) ≤ v5) → qw_S_isIn v5 v1 x (fun r2 x1 => ((r2 = 0) → rec v1 v3 (v5 + 1) x1) ∧ (¬ (r2 = 0) → vp_in v5 60 ∧ (qw_S_bit (gA x1 1 v5.toNatClampNeg) x1 (fun r4 x3 => ∀ t5 : Int64, t5 = v3 ||| r4 → rec v1 t5 (v5 + 1) x3)))))
def qw_C_parentsOf_H5  (post : Int64 → QX → Prop) : Nat → Int64 → Int64 → Int32 → QX → Prop
  | 0, _, _, _, _ => False
  | n + 1, v1, v3, v5, x => qw_C_parentsOf_S5  post (qw_C_parentsOf_H5  post n) v1 v3 v5 x
def qw_C_parentsOf (p1 : Int64) (x : QX) (post : Int64 → QX → Prop) : Prop :=
  qw_C_parentsOf_H5 post qFU p1 (0 : Int64) (1 : Int32) x
def qw_S_head_S31 (post : Int32 → QX → Prop) (rec : Int32 → Int32 → Int64 → Int64 → Int32 → Int32 → QX → Prop) (v1 : Int32) (v2 : Int32) (v3 : Int64) (v5 : Int64) (v7 : Int32) (v8 : Int32) (x : QX) : Prop :=
  (((60 : Int32) ≤ v8) → post (-1 : Int32) x) ∧ (¬ ((60 : Int32) ≤ v8) → qw_S_isIn v8 v5 x (fun r7 x6 => ((r7 = 0) → rec v1 v2 v3 v5 v7 (v8 + 1) x6) ∧ (¬ (r7 = 0) → ((¬ v7 = v2) → rec v1 v2 v3 v5 (v7 + 1) (v8 + 1) x6) ∧ ((v7 = v2) → post v8 x6))))
def qw_S_head_H31  (post : Int32 → QX → Prop) : Nat → Int32 → Int32 → Int64 → Int64 → Int32 → Int32 → QX → Prop
  | 0, _, _, _, _, _, _, _ => False
  | n + 1, v1, v2, v3, v5, v7, v8, x => qw_S_head_S31  post (qw_S_head_H31  post n) v1 v2 v3 v5 v7 v8 x
def qw_S_head (p1 : Int32) (p2 : Int32) (x : QX) (post : Int32 → QX → Prop) : Prop :=
  qw_O_shownIn p1 x (fun r2 x1 => qw_C_parentsOf r2 x1 (fun r4 x3 => ∀ t5 : Int64, t5 = r2 &&& (r4 ^^^ (-1 : Int64)) → qw_S_head_H31 post qFU p1 p2 r2 t5 (0 : Int32) (0 : Int32) x3))
def qw_S_commit (p1 : Int32) (p2 : Int32) (x : QX) (post : Int32 → QX → Prop) : Prop :=
  ((¬ p2 = 0) → ((¬ p2 = (1 : Int32)) → post (-1 : Int32) x) ∧ ((p2 = (1 : Int32)) → qw_C_changeOf p1 x (fun r2 x1 => post r2 x1))) ∧ ((p2 = 0) → qw_C_parentOf p1 x (fun r4 x3 => post r4 x3))
def qw_S_count (p1 : Int32) (p2 : Int32) (p3 : Int32) (x : QX) (post : Int64 → QX → Prop) : Prop :=
  qw_C_countOf p1 p2 p3 x (fun r2 x1 => post r2 x1)
def qw_M_here  (x : QX) (post : Int32 → QX → Prop) : Prop :=
  vp_in (gI x 5) 2 ∧ (post (gA x 8 (gI x 5).toNatClampNeg) x)
def qw_M_isVisible (p1 : Int32) (p2 : Int32) (x : QX) (post : Int32 → QX → Prop) : Prop :=
  ((p2 < 0) → post (0 : Int32) x) ∧ (¬ (p2 < 0) → (((gI x 0) ≤ p2) → post (0 : Int32) x) ∧ (¬ ((gI x 0) ≤ p2) → vp_in (((60 : Int32) * p1) + p2) 6000 ∧ ((((gA x 5 (((60 : Int32) * p1) + p2).toNatClampNeg) = 0) → post (0 : Int32) x) ∧ (¬ ((gA x 5 (((60 : Int32) * p1) + p2).toNatClampNeg) = 0) → post (1 : Int32) x))))
def qw_M_begin_S40 (post : QX → Prop) (rec : Int32 → Int32 → QX → Prop) (v1 : Int32) (v2 : Int32) (x : QX) : Prop :=
  (((3 : Int32) ≤ v2) → vp_in v1 100 ∧ (∀ x1 : QX, x1 = sI x 6 (gA x 7 v1.toNatClampNeg) → ∀ x2 : QX, x2 = sI x1 7 (gI x1 0) → ∀ x3 : QX, x3 = sI x2 8 (gI x2 1) → ∀ x4 : QX, x4 = sI x3 9 (0 : Int32) → post x4)) ∧ (¬ ((3 : Int32) ≤ v2) → vp_in (((3 : Int32) * v1) + v2) 300 ∧ (vp_in v2 3 ∧ ∀ x5 : QX, x5 = sA x 10 (upd (gA x 10) v2.toNatClampNeg (gA x 6 (((3 : Int32) * v1) + v2).toNatClampNeg)) → rec v1 (v2 + 1) x5))
def qw_M_begin_H40  (post : QX → Prop) : Nat → Int32 → Int32 → QX → Prop
  | 0, _, _, _ => False
  | n + 1, v1, v2, x => qw_M_begin_S40  post (qw_M_begin_H40  post n) v1 v2 x
def qw_M_begin_S2 (post : QX → Prop) (rec : Int32 → Int32 → QX → Prop) (v1 : Int32) (v2 : Int32) (x : QX) : Prop :=
  (((60 : Int32) ≤ v2) → qw_M_begin_H40 post qFU v1 (0 : Int32) x) ∧ (¬ ((60 : Int32) ≤ v2) → vp_in (((60 : Int32) * v1) + v2) 6000 ∧ (vp_in v2 60 ∧ ∀ x6 : QX, x6 = sA x 9 (upd (gA x 9) v2.toNatClampNeg (vp_nar .boolean (gA x 5 (((60 : Int32) * v1) + v2).toNatClampNeg))) → vp_in v2 60 ∧ ∀ x7 : QX, x7 = sA x6 11 (upd (gA x6 11) v2.toNatClampNeg (-1 : Int32)) → rec v1 (v2 + 1) x7))
def qw_M_begin_H2  (post : QX → Prop) : Nat → Int32 → Int32 → QX → Prop
  | 0, _, _, _ => False
  | n + 1, v1, v2, x => qw_M_begin_S2  post (qw_M_begin_H2  post n) v1 v2 x
def qw_M_begin (p1 : Int32) (x : QX) (post : QX → Prop) : Prop :=
  qw_M_begin_H2 post qFU p1 (0 : Int32) x
def qw_M_fresh (p1 : Int32) (p2 : Int32) (x : QX) (post : Int32 → QX → Prop) : Prop :=
  ((¬ (gI x 0) = (60 : Int32)) → vp_in (gI x 0) 60 ∧ ∀ x1 : QX, x1 = sA x 0 (upd (gA x 0) (gI x 0).toNatClampNeg p1) → vp_in (gI x1 0) 60 ∧ ∀ x2 : QX, x2 = sA x1 1 (upd (gA x1 1) (gI x1 0).toNatClampNeg p2) → ∀ x3 : QX, x3 = sI x2 0 ((gI x2 0) + (1 : Int32)) → post ((gI x3 0) - (1 : Int32)) x3) ∧ (((gI x 0) = (60 : Int32)) → ∀ x4 : QX, x4 = sI x 9 (1 : Int32) → post (-1 : Int32) x4)
def qw_M_copyContents_S2 (post : QX → Prop) (rec : Int32 → Int32 → Int32 → QX → Prop) (v1 : Int32) (v2 : Int32) (v3 : Int32) (x : QX) : Prop :=
  (((32 : Int32) ≤ v3) → post x) ∧ (¬ ((32 : Int32) ≤ v3) → vp_in (((32 : Int32) * v2) + v3) 1920 ∧ (vp_in (((32 : Int32) * v1) + v3) 1920 ∧ ∀ x1 : QX, x1 = sB x 0 (vp_updL (gB x 0) (((32 : Int32) * v1) + v3).toNatClampNeg (gB x 0 (((32 : Int32) * v2) + v3).toNatClampNeg)) → rec v1 v2 (v3 + 1) x1))
def qw_M_copyContents_H2  (post : QX → Prop) : Nat → Int32 → Int32 → Int32 → QX → Prop
  | 0, _, _, _, _ => False
  | n + 1, v1, v2, v3, x => qw_M_copyContents_S2  post (qw_M_copyContents_H2  post n) v1 v2 v3 x
def qw_M_copyContents (p1 : Int32) (p2 : Int32) (x : QX) (post : QX → Prop) : Prop :=
  qw_M_copyContents_H2 post qFU p1 p2 (0 : Int32) x
def qw_M_finish_S102 (post : Int32 → QX → Prop) (rec : Int32 → Int32 → Int32 → Int32 → QX → Prop) (v1 : Int32) (v2 : Int32) (v3 : Int32) (v4 : Int32) (x : QX) : Prop :=
  (((3 : Int32) ≤ v4) → vp_in v3 100 ∧ ∀ x7 : QX, x7 = sA x 7 (upd (gA x 7) v3.toNatClampNeg (gI x 6)) → post v3 x7) ∧ (¬ ((3 : Int32) ≤ v4) → vp_in v4 3 ∧ (vp_in (((3 : Int32) * v3) + v4) 300 ∧ ∀ x8 : QX, x8 = sA x 6 (upd (gA x 6) (((3 : Int32) * v3) + v4).toNatClampNeg (gA x 10 v4.toNatClampNeg)) → rec v1 v2 v3 (v4 + 1) x8))
def qw_M_finish_H102  (post : Int32 → QX → Prop) : Nat → Int32 → Int32 → Int32 → Int32 → QX → Prop
  | 0, _, _, _, _, _ => False
  | n + 1, v1, v2, v3, v4, x => qw_M_finish_S102  post (qw_M_finish_H102  post n) v1 v2 v3 v4 x
def qw_M_finish_S67 (post : Int32 → QX → Prop) (rec : Int32 → Int32 → Int32 → Int32 → QX → Prop) (v1 : Int32) (v2 : Int32) (v3 : Int32) (v4 : Int32) (x : QX) : Prop :=
  (((60 : Int32) ≤ v4) → qw_M_finish_H102 post qFU v1 v2 v3 (0 : Int32) x) ∧ (¬ ((60 : Int32) ≤ v4) → vp_in v4 60 ∧ (vp_in (((60 : Int32) * v3) + v4) 6000 ∧ ∀ x9 : QX, x9 = sA x 5 (upd (gA x 5) (((60 : Int32) * v3) + v4).toNatClampNeg (vp_nar .boolean (gA x 9 v4.toNatClampNeg))) → rec v1 v2 v3 (v4 + 1) x9))
def qw_M_finish_H67  (post : Int32 → QX → Prop) : Nat → Int32 → Int32 → Int32 → Int32 → QX → Prop
  | 0, _, _, _, _, _ => False
  | n + 1, v1, v2, v3, v4, x => qw_M_finish_S67  post (qw_M_finish_H67  post n) v1 v2 v3 v4 x
def qw_M_finish (p1 : Int32) (p2 : Int32) (x : QX) (post : Int32 → QX → Prop) : Prop :=
  ((¬ (gI x 9) = 0) → ∀ x1 : QX, x1 = sI x 0 (gI x 7) → ∀ x2 : QX, x2 = sI x1 1 (gI x1 8) → post (-3 : Int32) x2) ∧ (((gI x 9) = 0) → ((¬ (gI x 2) = (100 : Int32)) → ∀ t3 : Int32, t3 = gI x 2 → ∀ x4 : QX, x4 = sI x 2 ((gI x 2) + (1 : Int32)) → vp_in t3 100 ∧ ∀ x5 : QX, x5 = sA x4 2 (upd (gA x4 2) t3.toNatClampNeg p1) → vp_in t3 100 ∧ ∀ x6 : QX, x6 = sA x5 3 (upd (gA x5 3) t3.toNatClampNeg p2) → qw_M_finish_H67 post qFU p1 p2 t3 (0 : Int32) x6) ∧ (((gI x 2) = (100 : Int32)) → ∀ x10 : QX, x10 = sI x 0 (gI x 7) → ∀ x11 : QX, x11 = sI x10 1 (gI x10 8) → post (-3 : Int32) x11))
def qw_M_done  (x : QX) (post : Int32 → QX → Prop) : Prop :=
  qw_M_here x (fun r2 x1 => qw_M_finish r2 (-1 : Int32) x1 (fun r4 x3 => ((r4 < 0) → qw_M_here x3 (fun r6 x5 => vp_in (gI x3 5) 2 ∧ ∀ x7 : QX, x7 = sA x5 8 (upd (gA x5 8) (gI x3 5).toNatClampNeg r6) → post r4 x7)) ∧ (¬ (r4 < 0) → vp_in (gI x3 5) 2 ∧ ∀ x8 : QX, x8 = sA x3 8 (upd (gA x3 8) (gI x3 5).toNatClampNeg r4) → post r4 x8)))
def qw_M_create (p1 : Int32) (x : QX) (post : Int32 → QX → Prop) : Prop :=
  qw_M_here x (fun r2 x1 => qw_M_isVisible r2 p1 x1 (fun r4 x3 => ((¬ r4 = 0) → qw_M_here x3 (fun r6 x5 => qw_M_begin r6 x5 (fun x7 => qw_M_fresh ((gI x7 1) + (1 : Int32)) p1 x7 (fun r9 x8 => ((r9 < 0) → qw_M_done x8 (fun r11 x10 => post r11 x10)) ∧ (¬ (r9 < 0) → ∀ x12 : QX, x12 = sI x8 1 ((gI x8 1) + (1 : Int32)) → qw_M_copyContents r9 p1 x12 (fun x13 => vp_in r9 60 ∧ ∀ x14 : QX, x14 = sA x13 9 (upd (gA x13 9) r9.toNatClampNeg (vp_nar .boolean (1 : Int32))) → ∀ x15 : QX, x15 = sI x14 6 r9 → qw_M_done x15 (fun r17 x16 => post r17 x16))))))) ∧ ((r4 = 0) → post (-1 : Int32) x3)))
def qw_M_plain_S6 (post : Int32 → QX → Prop) (rec : Int32 → Int32 → Int32 → Int32 → Int32 → QX → Prop) (v1 : Int32) (v2 : Int32) (v3 : Int32) (v4 : Int32) (v5 : Int32) (x : QX) : Prop :=
  (((8 : Int32) ≤ v5) → vp_nar .boolean v4 = v4 ∧ post v4 x) ∧ (¬ ((8 : Int32) ≤ v5) → ((v4 = 0) → rec v1 v2 v3 (0 : Int32) (v5 + 1) x) ∧ (¬ (v4 = 0) → vp_in ((((32 : Int32) * v1) + ((8 : Int32) * v2)) + v5) 1920 ∧ (((¬ v5 = v3) → ((¬ (lg_cmp (gB x 0 ((((32 : Int32) * v1) + ((8 : Int32) * v2)) + v5).toNatClampNeg) ((0 : Int32).toInt64)) = 0) → rec v1 v2 v3 (0 : Int32) (v5 + 1) x) ∧ (((lg_cmp (gB x 0 ((((32 : Int32) * v1) + ((8 : Int32) * v2)) + v5).toNatClampNeg) ((0 : Int32).toInt64)) = 0) → rec v1 v2 v3 (1 : Int32) (v5 + 1) x)) ∧ ((v5 = v3) → ((¬ (lg_cmp (gB x 0 ((((32 : Int32) * v1) + ((8 : Int32) * v2)) + v5).toNatClampNeg) ((1 : Int32).toInt64)) = 0) → rec v1 v2 v3 (0 : Int32) (v5 + 1) x) ∧ (((lg_cmp (gB x 0 ((((32 : Int32) * v1) + ((8 : Int32) * v2)) + v5).toNatClampNeg) ((1 : Int32).toInt64)) = 0) → rec v1 v2 v3 (1 : Int32) (v5 + 1) x)))))
def qw_M_plain_H6  (post : Int32 → QX → Prop) : Nat → Int32 → Int32 → Int32 → Int32 → Int32 → QX → Prop
  | 0, _, _, _, _, _, _ => False
  | n + 1, v1, v2, v3, v4, v5, x => qw_M_plain_S6  post (qw_M_plain_H6  post n) v1 v2 v3 v4 v5 x
def qw_M_plain (p1 : Int32) (p2 : Int32) (p3 : Int32) (x : QX) (post : Int32 → QX → Prop) : Prop :=
  qw_M_plain_H6 post qFU p1 p2 p3 (1 : Int32) (0 : Int32) x
def qw_M_setPlain_S3 (post : QX → Prop) (rec : Int32 → Int32 → Int32 → Int32 → QX → Prop) (v1 : Int32) (v2 : Int32) (v3 : Int32) (v4 : Int32) (x : QX) : Prop :=
  (((8 : Int32) ≤ v4) → post x) ∧ (¬ ((8 : Int32) ≤ v4) → ((¬ v4 = v3) → vp_in ((((32 : Int32) * v1) + ((8 : Int32) * v2)) + v4) 1920 ∧ ∀ x1 : QX, x1 = sB x 0 (vp_updL (gB x 0) ((((32 : Int32) * v1) + ((8 : Int32) * v2)) + v4).toNatClampNeg (0 : Int64)) → rec v1 v2 v3 (v4 + 1) x1) ∧ ((v4 = v3) → vp_in ((((32 : Int32) * v1) + ((8 : Int32) * v2)) + v4) 1920 ∧ ∀ x2 : QX, x2 = sB x 0 (vp_updL (gB x 0) ((((32 : Int32) * v1) + ((8 : Int32) * v2)) + v4).toNatClampNeg (1 : Int64)) → rec v1 v2 v3 (v4 + 1) x2))
def qw_M_setPlain_H3  (post : QX → Prop) : Nat → Int32 → Int32 → Int32 → Int32 → QX → Prop
  | 0, _, _, _, _, _ => False
  | n + 1, v1, v2, v3, v4, x => qw_M_setPlain_S3  post (qw_M_setPlain_H3  post n) v1 v2 v3 v4 x
def qw_M_setPlain (p1 : Int32) (p2 : Int32) (p3 : Int32) (x : QX) (post : QX → Prop) : Prop :=
  qw_M_setPlain_H3 post qFU p1 p2 p3 (0 : Int32) x
def qw_M_replace (p1 : Int32) (p2 : Int32) (x : QX) (post : QX → Prop) : Prop :=
  vp_in p1 60 ∧ ∀ x1 : QX, x1 = sA x 9 (upd (gA x 9) p1.toNatClampNeg (vp_nar .boolean (0 : Int32))) → vp_in p2 60 ∧ ∀ x2 : QX, x2 = sA x1 9 (upd (gA x1 9) p2.toNatClampNeg (vp_nar .boolean (1 : Int32))) → vp_in p1 60 ∧ ∀ x3 : QX, x3 = sA x2 11 (upd (gA x2 11) p1.toNatClampNeg p2) → post x3
def qw_M_loose_S2 (post : Int32 → QX → Prop) (rec : Int32 → QX → Prop) (v1 : Int32) (x : QX) : Prop :=
  (((gI x 0) ≤ v1) → post (-1 : Int32) x) ∧ (¬ ((gI x 0) ≤ v1) → vp_in v1 60 ∧ ((((gA x 9 v1.toNatClampNeg) = 0) → rec (v1 + 1) x) ∧ (¬ ((gA x 9 v1.toNatClampNeg) = 0) → vp_in v1 60 ∧ (vp_in (gA x 1 v1.toNatClampNeg) 60 ∧ (((¬ (gA x 9 (gA x 1 v1.toNatClampNeg).toNatClampNeg) = 0) → rec (v1 + 1) x) ∧ (((gA x 9 (gA x 1 v1.toNatClampNeg).toNatClampNeg) = 0) → post v1 x))))))
def qw_M_loose_H2  (post : Int32 → QX → Prop) : Nat → Int32 → QX → Prop
  | 0, _, _ => False
  | n + 1, v1, x => qw_M_loose_S2  post (qw_M_loose_H2  post n) v1 x
def qw_M_loose  (x : QX) (post : Int32 → QX → Prop) : Prop :=
  qw_M_loose_H2 post qFU (1 : Int32) x
def qw_M_comesOf_S2 (post : Int32 → QX → Prop) (rec : Int32 → Int32 → Int32 → QX → Prop) (v1 : Int32) (v2 : Int32) (v3 : Int32) (x : QX) : Prop :=
  ((v3 ≤ v2) → ((¬ v3 = v2) → post (0 : Int32) x) ∧ ((v3 = v2) → post (1 : Int32) x)) ∧ (¬ (v3 ≤ v2) → vp_in v3 60 ∧ (∀ t1 : Int32, t1 = gA x 1 v3.toNatClampNeg → rec v1 v2 t1 x))
def qw_M_comesOf_H2  (post : Int32 → QX → Prop) : Nat → Int32 → Int32 → Int32 → QX → Prop
  | 0, _, _, _, _ => False
  | n + 1, v1, v2, v3, x => qw_M_comesOf_S2  post (qw_M_comesOf_H2  post n) v1 v2 v3 x
def qw_M_comesOf (p1 : Int32) (p2 : Int32) (x : QX) (post : Int32 → QX → Prop) : Prop :=
  qw_M_comesOf_H2 post qFU p1 p2 p1 x
def qw_M_sameChange_S5 (post : Int32 → QX → Prop) (rec : Int32 → Int32 → Int32 → Int32 → QX → Prop) (v1 : Int32) (v2 : Int32) (v3 : Int32) (v4 : Int32) (x : QX) : Prop :=
  (((gI x 0) ≤ v4) → post v3 x) ∧ (¬ ((gI x 0) ≤ v4) → vp_in v4 60 ∧ ((((gA x 9 v4.toNatClampNeg) = 0) → rec v1 v2 v3 (v4 + 1) x) ∧ (¬ ((gA x 9 v4.toNatClampNeg) = 0) → vp_in v4 60 ∧ (vp_in v1 60 ∧ (((¬ (gA x 0 v4.toNatClampNeg) = (gA x 0 v1.toNatClampNeg)) → rec v1 v2 v3 (v4 + 1) x) ∧ (((gA x 0 v4.toNatClampNeg) = (gA x 0 v1.toNatClampNeg)) → ((v2 < 0) → rec v1 v2 v4 (v4 + 1) x) ∧ (¬ (v2 < 0) → qw_M_comesOf v4 v2 x (fun r2 x1 => ((¬ r2 = 0) → rec v1 v2 v3 (v4 + 1) x1) ∧ ((r2 = 0) → rec v1 v2 v4 (v4 + 1) x1)))))))))
def qw_M_sameChange_H5  (post : Int32 → QX → Prop) : Nat → Int32 → Int32 → Int32 → Int32 → QX → Prop
  | 0, _, _, _, _, _ => False
  | n + 1, v1, v2, v3, v4, x => qw_M_sameChange_S5  post (qw_M_sameChange_H5  post n) v1 v2 v3 v4 x
def qw_M_sameChange (p1 : Int32) (p2 : Int32) (x : QX) (post : Int32 → QX → Prop) : Prop :=
  qw_M_sameChange_H5 post qFU p1 p2 (-1 : Int32) (0 : Int32) x
def qw_M_place_S5 (post : Int32 → QX → Prop) (rec : Int32 → Int32 → Int32 → Int32 → QX → Prop) (v1 : Int32) (v2 : Int32) (v3 : Int32) (v4 : Int32) (x : QX) : Prop :=
  (((400 : Int32) ≤ v4) → post (0 : Int32) x) ∧ (¬ ((400 : Int32) ≤ v4) → vp_in v3 60 ∧ ((((gA x 9 v3.toNatClampNeg) = 0) → qw_M_sameChange v3 v2 x (fun r2 x1 => vp_in v3 60 ∧ (((0 ≤ (gA x1 11 v3.toNatClampNeg)) → vp_in v3 60 ∧ ((((gA x1 11 v3.toNatClampNeg) < 0) → vp_in v3 60 ∧ (∀ t3 : Int32, t3 = gA x1 1 v3.toNatClampNeg → rec v1 v2 t3 (v4 + 1) x1)) ∧ (¬ ((gA x1 11 v3.toNatClampNeg) < 0) → vp_in v3 60 ∧ (∀ t4 : Int32, t4 = gA x1 11 v3.toNatClampNeg → rec v1 v2 t4 (v4 + 1) x1)))) ∧ (¬ (0 ≤ (gA x1 11 v3.toNatClampNeg)) → ((r2 < 0) → vp_in v3 60 ∧ ((((gA x1 11 v3.toNatClampNeg) < 0) → vp_in v3 60 ∧ (∀ t5 : Int32, t5 = gA x1 1 v3.toNatClampNeg → rec v1 v2 t5 (v4 + 1) x1)) ∧ (¬ ((gA x1 11 v3.toNatClampNeg) < 0) → vp_in v3 60 ∧ (∀ t6 : Int32, t6 = gA x1 11 v3.toNatClampNeg → rec v1 v2 t6 (v4 + 1) x1)))) ∧ (¬ (r2 < 0) → post r2 x1))))) ∧ (¬ ((gA x 9 v3.toNatClampNeg) = 0) → post v3 x)))
def qw_M_place_H5  (post : Int32 → QX → Prop) : Nat → Int32 → Int32 → Int32 → Int32 → QX → Prop
  | 0, _, _, _, _, _ => False
  | n + 1, v1, v2, v3, v4, x => qw_M_place_S5  post (qw_M_place_H5  post n) v1 v2 v3 v4 x
def qw_M_place (p1 : Int32) (p2 : Int32) (x : QX) (post : Int32 → QX → Prop) : Prop :=
  qw_M_place_H5 post qFU p1 p2 p1 (0 : Int32) x
def qw_M_mix_S18 (K3 : Int32 → Int32 → Int32 → Int32 → Int32 → QX → Prop) (post : QX → Prop) (rec : Int32 → Int32 → Int32 → Int32 → Int32 → Int32 → Int32 → Int32 → QX → Prop) (v1 : Int32) (v2 : Int32) (v3 : Int32) (v4 : Int32) (v5 : Int32) (v6 : Int32) (v7 : Int32) (v8 : Int32) (x : QX) : Prop :=
  (((8 : Int32) ≤ v8) → ((¬ v6 = (2 : Int32)) → K3 v1 v2 v3 v4 (v5 + 1) x) ∧ ((v6 = (2 : Int32)) → qw_M_setPlain v1 v5 v7 x (fun x1 => K3 v1 v2 v3 v4 (v5 + 1) x1))) ∧ (¬ ((8 : Int32) ≤ v8) → ∀ t2 : Int32, t2 = ((8 : Int32) * v5) + v8 → vp_in (((32 : Int32) * v2) + t2) 1920 ∧ (vp_in (((32 : Int32) * v3) + t2) 1920 ∧ (vp_in (((32 : Int32) * v4) + t2) 1920 ∧ (∀ t3 : Int64, t3 = ((gB x 0 (((32 : Int32) * v2) + t2).toNatClampNeg) + (gB x 0 (((32 : Int32) * v3) + t2).toNatClampNeg)) - (gB x 0 (((32 : Int32) * v4) + t2).toNatClampNeg) → vp_in (((32 : Int32) * v1) + t2) 1920 ∧ ∀ x4 : QX, x4 = sB x 0 (vp_updL (gB x 0) (((32 : Int32) * v1) + t2).toNatClampNeg t3) → (((lg_cmp t3 (0 : Int64)) = 0) → ∀ t5 : Int32, t5 = v6 + (0 : Int32) → (((lg_cmp t3 (0 : Int64)) ≤ 0) → rec v1 v2 v3 v4 v5 t5 v7 (v8 + 1) x4) ∧ (¬ ((lg_cmp t3 (0 : Int64)) ≤ 0) → rec v1 v2 v3 v4 v5 t5 v8 (v8 + 1) x4)) ∧ (¬ ((lg_cmp t3 (0 : Int64)) = 0) → ∀ t6 : Int32, t6 = v6 + (1 : Int32) → (((lg_cmp t3 (0 : Int64)) ≤ 0) → rec v1 v2 v3 v4 v5 t6 v7 (v8 + 1) x4) ∧ (¬ ((lg_cmp t3 (0 : Int64)) ≤ 0) → rec v1 v2 v3 v4 v5 t6 v8 (v8 + 1) x4))))))
def qw_M_mix_H18 (K3 : Int32 → Int32 → Int32 → Int32 → Int32 → QX → Prop) (post : QX → Prop) : Nat → Int32 → Int32 → Int32 → Int32 → Int32 → Int32 → Int32 → Int32 → QX → Prop
  | 0, _, _, _, _, _, _, _, _, _ => False
  | n + 1, v1, v2, v3, v4, v5, v6, v7, v8, x => qw_M_mix_S18 K3 post (qw_M_mix_H18 K3 post n) v1 v2 v3 v4 v5 v6 v7 v8 x
def qw_M_mix_S3 (post : QX → Prop) (rec : Int32 → Int32 → Int32 → Int32 → Int32 → QX → Prop) (v1 : Int32) (v2 : Int32) (v3 : Int32) (v4 : Int32) (v5 : Int32) (x : QX) : Prop :=
  (((4 : Int32) ≤ v5) → post x) ∧ (¬ ((4 : Int32) ≤ v5) → qw_M_mix_H18 rec post qFU v1 v2 v3 v4 v5 (0 : Int32) (0 : Int32) (0 : Int32) x)
def qw_M_mix_H3  (post : QX → Prop) : Nat → Int32 → Int32 → Int32 → Int32 → Int32 → QX → Prop
  | 0, _, _, _, _, _, _ => False
  | n + 1, v1, v2, v3, v4, v5, x => qw_M_mix_S3  post (qw_M_mix_H3  post n) v1 v2 v3 v4 v5 x
def qw_M_mix (p1 : Int32) (p2 : Int32) (p3 : Int32) (p4 : Int32) (x : QX) (post : QX → Prop) : Prop :=
  qw_M_mix_H3 post qFU p1 p2 p3 p4 (0 : Int32) x
def qw_M_settle_S73 (post : QX → Prop) (rec : Int32 → Int32 → QX → Prop) (v1 : Int32) (v2 : Int32) (x : QX) : Prop :=
  (((3 : Int32) ≤ v2) → ((¬ (gI x 9) = 0) → ∀ x3 : QX, x3 = sI x 6 (gI x 6) → post x3) ∧ (((gI x 9) = 0) → vp_in (gI x 6) 60 ∧ (((¬ (gA x 9 (gI x 6).toNatClampNeg) = 0) → ∀ x4 : QX, x4 = sI x 6 (gI x 6) → post x4) ∧ (((gA x 9 (gI x 6).toNatClampNeg) = 0) → qw_M_place (gI x 6) (-1 : Int32) x (fun r6 x5 => ∀ x7 : QX, x7 = sI x5 6 r6 → post x7))))) ∧ (¬ ((3 : Int32) ≤ v2) → ((¬ (gI x 9) = 0) → ((¬ (gI x 9) = 0) → ∀ x8 : QX, x8 = sI x 6 (gI x 6) → post x8) ∧ (((gI x 9) = 0) → vp_in (gI x 6) 60 ∧ (((¬ (gA x 9 (gI x 6).toNatClampNeg) = 0) → ∀ x9 : QX, x9 = sI x 6 (gI x 6) → post x9) ∧ (((gA x 9 (gI x 6).toNatClampNeg) = 0) → qw_M_place (gI x 6) (-1 : Int32) x (fun r11 x10 => ∀ x12 : QX, x12 = sI x10 6 r11 → post x12))))) ∧ (((gI x 9) = 0) → vp_in v2 3 ∧ ((((gA x 10 v2.toNatClampNeg) < 0) → vp_in v2 3 ∧ (vp_in v2 3 ∧ ∀ x13 : QX, x13 = sA x 10 (upd (gA x 10) v2.toNatClampNeg (gA x 10 v2.toNatClampNeg)) → rec v1 (v2 + 1) x13)) ∧ (¬ ((gA x 10 v2.toNatClampNeg) < 0) → vp_in v2 3 ∧ (vp_in (gA x 10 v2.toNatClampNeg) 60 ∧ (((¬ (gA x 9 (gA x 10 v2.toNatClampNeg).toNatClampNeg) = 0) → vp_in v2 3 ∧ (vp_in v2 3 ∧ ∀ x14 : QX, x14 = sA x 10 (upd (gA x 10) v2.toNatClampNeg (gA x 10 v2.toNatClampNeg)) → rec v1 (v2 + 1) x14)) ∧ (((gA x 9 (gA x 10 v2.toNatClampNeg).toNatClampNeg) = 0) → vp_in v2 3 ∧ (qw_M_place (gA x 10 v2.toNatClampNeg) (-1 : Int32) x (fun r16 x15 => vp_in v2 3 ∧ ∀ x17 : QX, x17 = sA x15 10 (upd (gA x15 10) v2.toNatClampNeg r16) → rec v1 (v2 + 1) x17)))))))))
def qw_M_settle_H73  (post : QX → Prop) : Nat → Int32 → Int32 → QX → Prop
  | 0, _, _, _ => False
  | n + 1, v1, v2, x => qw_M_settle_S73  post (qw_M_settle_H73  post n) v1 v2 x
def qw_M_settle_S5 (post : QX → Prop) (rec : Int32 → QX → Prop) (v1 : Int32) (x : QX) : Prop :=
  ((v1 < 0) → qw_M_settle_H73 post qFU v1 (0 : Int32) x) ∧ (¬ (v1 < 0) → ((¬ (gI x 9) = 0) → qw_M_settle_H73 post qFU v1 (0 : Int32) x) ∧ (((gI x 9) = 0) → vp_in v1 60 ∧ (qw_M_place (gA x 1 v1.toNatClampNeg) v1 x (fun r19 x18 => vp_in v1 60 ∧ (qw_M_fresh (gA x18 0 v1.toNatClampNeg) r19 x18 (fun r21 x20 => ((r21 < 0) → rec v1 x20) ∧ (¬ (r21 < 0) → vp_in v1 60 ∧ (qw_M_mix r21 v1 r19 (gA x20 1 v1.toNatClampNeg) x20 (fun x22 => qw_M_replace v1 r21 x22 (fun x23 => qw_M_loose x23 (fun r25 x24 => rec r25 x24)))))))))))
def qw_M_settle_H5  (post : QX → Prop) : Nat → Int32 → QX → Prop
  | 0, _, _ => False
  | n + 1, v1, x => qw_M_settle_S5  post (qw_M_settle_H5  post n) v1 x
def qw_M_settle  (x : QX) (post : QX → Prop) : Prop :=
  qw_M_loose x (fun r2 x1 => qw_M_settle_H5 post qFU r2 x1)
def qw_M_write (p1 : Int32) (p2 : Int32) (x : QX) (post : Int32 → QX → Prop) : Prop :=
  qw_M_here x (fun r2 x1 => vp_in r2 100 ∧ (∀ t3 : Int32, t3 = gA x1 7 r2.toNatClampNeg → ((t3 = 0) → post (-1 : Int32) x1) ∧ (¬ (t3 = 0) → ((p1 < 0) → post (-1 : Int32) x1) ∧ (¬ (p1 < 0) → (((3 : Int32) < p1) → post (-1 : Int32) x1) ∧ (¬ ((3 : Int32) < p1) → ((p2 < 0) → post (-1 : Int32) x1) ∧ (¬ (p2 < 0) → ((p2 ≤ (7 : Int32)) → qw_M_plain t3 p1 p2 x1 (fun r5 x4 => ((r5 = 0) → qw_M_here x4 (fun r7 x6 => qw_M_begin r7 x6 (fun x8 => vp_in t3 60 ∧ (vp_in t3 60 ∧ (qw_M_fresh (gA x8 0 t3.toNatClampNeg) (gA x8 1 t3.toNatClampNeg) x8 (fun r10 x9 => ((r10 < 0) → qw_M_done x9 (fun r12 x11 => post r12 x11)) ∧ (¬ (r10 < 0) → qw_M_copyContents r10 t3 x9 (fun x13 => qw_M_setPlain r10 p1 p2 x13 (fun x14 => qw_M_replace t3 r10 x14 (fun x15 => qw_M_settle x15 (fun x16 => qw_M_done x16 (fun r18 x17 => post r18 x17)))))))))))) ∧ (¬ (r5 = 0) → post (-2 : Int32) x4))) ∧ (¬ (p2 ≤ (7 : Int32)) → post (-1 : Int32) x1)))))))
def qw_M_rebase (p1 : Int32) (p2 : Int32) (x : QX) (post : Int32 → QX → Prop) : Prop :=
  ((p1 = 0) → post (-1 : Int32) x) ∧ (¬ (p1 = 0) → qw_M_here x (fun r2 x1 => qw_M_isVisible r2 p1 x1 (fun r4 x3 => ((r4 = 0) → post (-1 : Int32) x3) ∧ (¬ (r4 = 0) → qw_M_here x3 (fun r6 x5 => qw_M_isVisible r6 p2 x5 (fun r8 x7 => ((r8 = 0) → post (-1 : Int32) x7) ∧ (¬ (r8 = 0) → qw_M_comesOf p2 p1 x7 (fun r10 x9 => ((r10 = 0) → vp_in p1 60 ∧ (((¬ (gA x9 1 p1.toNatClampNeg) = p2) → qw_M_here x9 (fun r12 x11 => qw_M_begin r12 x11 (fun x13 => vp_in p1 60 ∧ (qw_M_fresh (gA x13 0 p1.toNatClampNeg) p2 x13 (fun r15 x14 => ((r15 < 0) → qw_M_done x14 (fun r17 x16 => post r17 x16)) ∧ (¬ (r15 < 0) → vp_in p1 60 ∧ (qw_M_mix r15 p1 p2 (gA x14 1 p1.toNatClampNeg) x14 (fun x18 => qw_M_replace p1 r15 x18 (fun x19 => qw_M_settle x19 (fun x20 => qw_M_done x20 (fun r22 x21 => post r22 x21))))))))))) ∧ (((gA x9 1 p1.toNatClampNeg) = p2) → post (-2 : Int32) x9))) ∧ (¬ (r10 = 0) → post (-1 : Int32) x9)))))))))
def qw_M_abandon (p1 : Int32) (x : QX) (post : Int32 → QX → Prop) : Prop :=
  ((p1 = 0) → post (-1 : Int32) x) ∧ (¬ (p1 = 0) → qw_M_here x (fun r2 x1 => qw_M_isVisible r2 p1 x1 (fun r4 x3 => ((¬ r4 = 0) → qw_M_here x3 (fun r6 x5 => qw_M_begin r6 x5 (fun x7 => vp_in p1 60 ∧ (qw_M_replace p1 (gA x7 1 p1.toNatClampNeg) x7 (fun x8 => qw_M_settle x8 (fun x9 => qw_M_done x9 (fun r11 x10 => post r11 x10))))))) ∧ ((r4 = 0) → post (-1 : Int32) x3))))
def qw_M_squash (p1 : Int32) (x : QX) (post : Int32 → QX → Prop) : Prop :=
  ((p1 = 0) → post (-1 : Int32) x) ∧ (¬ (p1 = 0) → qw_M_here x (fun r2 x1 => qw_M_isVisible r2 p1 x1 (fun r4 x3 => ((r4 = 0) → post (-1 : Int32) x3) ∧ (¬ (r4 = 0) → vp_in p1 60 ∧ (((¬ (gA x3 1 p1.toNatClampNeg) = 0) → vp_in p1 60 ∧ (∀ t5 : Int32, t5 = gA x3 1 p1.toNatClampNeg → qw_M_here x3 (fun r7 x6 => qw_M_begin r7 x6 (fun x8 => vp_in t5 60 ∧ (vp_in t5 60 ∧ (qw_M_fresh (gA x8 0 t5.toNatClampNeg) (gA x8 1 t5.toNatClampNeg) x8 (fun r10 x9 => ((r10 < 0) → qw_M_done x9 (fun r12 x11 => post r12 x11)) ∧ (¬ (r10 < 0) → qw_M_copyContents r10 p1 x9 (fun x13 => qw_M_replace p1 r10 x13 (fun x14 => qw_M_replace t5 r10 x14 (fun x15 => qw_M_settle x15 (fun x16 => qw_M_done x16 (fun r18 x17 => post r18 x17))))))))))))) ∧ (((gA x3 1 p1.toNatClampNeg) = 0) → post (-1 : Int32) x3))))))
def qw_M_edit (p1 : Int32) (x : QX) (post : Int32 → QX → Prop) : Prop :=
  qw_M_here x (fun r2 x1 => qw_M_isVisible r2 p1 x1 (fun r4 x3 => ((¬ r4 = 0) → qw_M_here x3 (fun r6 x5 => vp_in r6 100 ∧ (((¬ (gA x5 7 r6.toNatClampNeg) = p1) → qw_M_here x5 (fun r8 x7 => qw_M_begin r8 x7 (fun x9 => ∀ x10 : QX, x10 = sI x9 6 p1 → qw_M_done x10 (fun r12 x11 => post r12 x11)))) ∧ (((gA x5 7 r6.toNatClampNeg) = p1) → post (-2 : Int32) x5)))) ∧ ((r4 = 0) → post (-1 : Int32) x3)))
def qw_M_mark (p1 : Int32) (p2 : Int32) (x : QX) (post : Int32 → QX → Prop) : Prop :=
  ((p1 < 0) → post (-1 : Int32) x) ∧ (¬ (p1 < 0) → (((2 : Int32) < p1) → post (-1 : Int32) x) ∧ (¬ ((2 : Int32) < p1) → ((p2 = (-1 : Int32)) → qw_M_here x (fun r2 x1 => vp_in (((3 : Int32) * r2) + p1) 300 ∧ (((¬ (gA x1 6 (((3 : Int32) * r2) + p1).toNatClampNeg) = p2) → qw_M_here x1 (fun r4 x3 => qw_M_begin r4 x3 (fun x5 => vp_in p1 3 ∧ ∀ x6 : QX, x6 = sA x5 10 (upd (gA x5 10) p1.toNatClampNeg p2) → qw_M_done x6 (fun r8 x7 => post r8 x7)))) ∧ (((gA x1 6 (((3 : Int32) * r2) + p1).toNatClampNeg) = p2) → post (-2 : Int32) x1)))) ∧ (¬ (p2 = (-1 : Int32)) → qw_M_here x (fun r10 x9 => qw_M_isVisible r10 p2 x9 (fun r12 x11 => ((¬ r12 = 0) → qw_M_here x11 (fun r14 x13 => vp_in (((3 : Int32) * r14) + p1) 300 ∧ (((¬ (gA x13 6 (((3 : Int32) * r14) + p1).toNatClampNeg) = p2) → qw_M_here x13 (fun r16 x15 => qw_M_begin r16 x15 (fun x17 => vp_in p1 3 ∧ ∀ x18 : QX, x18 = sA x17 10 (upd (gA x17 10) p1.toNatClampNeg p2) → qw_M_done x18 (fun r20 x19 => post r20 x19)))) ∧ (((gA x13 6 (((3 : Int32) * r14) + p1).toNatClampNeg) = p2) → post (-2 : Int32) x13)))) ∧ ((r12 = 0) → post (-1 : Int32) x11))))))
def qw_M_undo  (x : QX) (post : Int32 → QX → Prop) : Prop :=
  qw_M_here x (fun r2 x1 => ((r2 = 0) → post (-1 : Int32) x1) ∧ (¬ (r2 = 0) → vp_in r2 100 ∧ ((((gA x1 4 r2.toNatClampNeg) = 0) → vp_in r2 100 ∧ (qw_M_begin (gA x1 2 r2.toNatClampNeg) x1 (fun x3 => qw_M_done x3 (fun r5 x4 => post r5 x4)))) ∧ (¬ ((gA x1 4 r2.toNatClampNeg) = 0) → post (-1 : Int32) x1))))
def qw_M_restore (p1 : Int32) (x : QX) (post : Int32 → QX → Prop) : Prop :=
  ((p1 < 0) → post (-1 : Int32) x) ∧ (¬ (p1 < 0) → ((p1 < (gI x 2)) → qw_M_begin p1 x (fun x1 => qw_M_done x1 (fun r3 x2 => post r3 x2))) ∧ (¬ (p1 < (gI x 2)) → post (-1 : Int32) x))
def qw_M_fork (p1 : Int32) (x : QX) (post : Int32 → QX → Prop) : Prop :=
  ((¬ (gI x 3) = 0) → post (0 : Int32) x) ∧ (((gI x 3) = 0) → ((p1 < 0) → post (0 : Int32) x) ∧ (¬ (p1 < 0) → ((p1 < (gI x 2)) → ∀ x1 : QX, x1 = sI x 3 (1 : Int32) → ∀ x2 : QX, x2 = sI x1 4 p1 → vp_in (1 : Int32) 2 ∧ ∀ x3 : QX, x3 = sA x2 8 (upd (gA x2 8) (1 : Int32).toNatClampNeg p1) → ∀ x4 : QX, x4 = sI x3 5 (1 : Int32) → post (1 : Int32) x4) ∧ (¬ (p1 < (gI x 2)) → post (0 : Int32) x)))
def qw_M_choose (p1 : Int32) (x : QX) (post : Int32 → QX → Prop) : Prop :=
  ((p1 = 0) → ∀ x1 : QX, x1 = sI x 5 p1 → post (1 : Int32) x1) ∧ (¬ (p1 = 0) → ((¬ p1 = (1 : Int32)) → post (0 : Int32) x) ∧ ((p1 = (1 : Int32)) → ((¬ (gI x 3) = 0) → ∀ x2 : QX, x2 = sI x 5 p1 → post (1 : Int32) x2) ∧ (((gI x 3) = 0) → post (0 : Int32) x)))
def qw_M_merged (p1 : Int32) (p2 : Int32) (p3 : Int32) (x : QX) (post : Int32 → QX → Prop) : Prop :=
  ((¬ p2 = p1) → ((p3 = p1) → post p2 x) ∧ (¬ (p3 = p1) → ((¬ p3 = p2) → post (-2 : Int32) x) ∧ ((p3 = p2) → post p2 x))) ∧ ((p2 = p1) → post p3 x)
def qw_M_join_S122 (post : Int32 → QX → Prop) (rec : Int32 → Int32 → Int32 → QX → Prop) (v1 : Int32) (v2 : Int32) (v3 : Int32) (x : QX) : Prop :=
  (((3 : Int32) ≤ v3) → vp_in v1 100 ∧ (vp_in (gI x 4) 100 ∧ (((¬ (gA x 7 v1.toNatClampNeg) = (gA x 7 (gI x 4).toNatClampNeg)) → vp_in v1 100 ∧ (∀ x4 : QX, x4 = sI x 6 (gA x 7 v1.toNatClampNeg) → qw_M_settle x4 (fun x5 => qw_M_finish v1 v2 x5 (fun r7 x6 => ((r7 < 0) → post r7 x6) ∧ (¬ (r7 < 0) → vp_in r7 100 ∧ ∀ x8 : QX, x8 = sA x6 4 (upd (gA x6 4) r7.toNatClampNeg (vp_nar .boolean (1 : Int32))) → vp_in (0 : Int32) 2 ∧ ∀ x9 : QX, x9 = sA x8 8 (upd (gA x8 8) (0 : Int32).toNatClampNeg r7) → ∀ x10 : QX, x10 = sI x9 5 (0 : Int32) → ∀ x11 : QX, x11 = sI x10 3 (0 : Int32) → post r7 x11))))) ∧ (((gA x 7 v1.toNatClampNeg) = (gA x 7 (gI x 4).toNatClampNeg)) → vp_in v2 100 ∧ (∀ x12 : QX, x12 = sI x 6 (gA x 7 v2.toNatClampNeg) → qw_M_settle x12 (fun x13 => qw_M_finish v1 v2 x13 (fun r15 x14 => ((r15 < 0) → post r15 x14) ∧ (¬ (r15 < 0) → vp_in r15 100 ∧ ∀ x16 : QX, x16 = sA x14 4 (upd (gA x14 4) r15.toNatClampNeg (vp_nar .boolean (1 : Int32))) → vp_in (0 : Int32) 2 ∧ ∀ x17 : QX, x17 = sA x16 8 (upd (gA x16 8) (0 : Int32).toNatClampNeg r15) → ∀ x18 : QX, x18 = sI x17 5 (0 : Int32) → ∀ x19 : QX, x19 = sI x18 3 (0 : Int32) → post r15 x19)))))))) ∧ (¬ ((3 : Int32) ≤ v3) → vp_in (((3 : Int32) * (gI x 4)) + v3) 300 ∧ (vp_in (((3 : Int32) * v1) + v3) 300 ∧ (vp_in (((3 : Int32) * v2) + v3) 300 ∧ (qw_M_merged (gA x 6 (((3 : Int32) * (gI x 4)) + v3).toNatClampNeg) (gA x 6 (((3 : Int32) * v1) + v3).toNatClampNeg) (gA x 6 (((3 : Int32) * v2) + v3).toNatClampNeg) x (fun r21 x20 => vp_in v3 3 ∧ ∀ x22 : QX, x22 = sA x20 10 (upd (gA x20 10) v3.toNatClampNeg r21) → rec v1 v2 (v3 + 1) x22)))))
def qw_M_join_H122  (post : Int32 → QX → Prop) : Nat → Int32 → Int32 → Int32 → QX → Prop
  | 0, _, _, _, _ => False
  | n + 1, v1, v2, v3, x => qw_M_join_S122  post (qw_M_join_H122  post n) v1 v2 v3 x
def qw_M_join_S30 (post : Int32 → QX → Prop) (rec : Int32 → Int32 → Int32 → QX → Prop) (v1 : Int32) (v2 : Int32) (v3 : Int32) (x : QX) : Prop :=
  (((60 : Int32) ≤ v3) → qw_M_join_H122 post qFU v1 v2 (0 : Int32) x) ∧ (¬ ((60 : Int32) ≤ v3) → vp_in (((60 : Int32) * (gI x 4)) + v3) 6000 ∧ (∀ t23 : Int32, t23 = gA x 5 (((60 : Int32) * (gI x 4)) + v3).toNatClampNeg → vp_in (((60 : Int32) * v1) + v3) 6000 ∧ (∀ t24 : Int32, t24 = gA x 5 (((60 : Int32) * v1) + v3).toNatClampNeg → vp_in (((60 : Int32) * v2) + v3) 6000 ∧ (∀ t25 : Int32, t25 = gA x 5 (((60 : Int32) * v2) + v3).toNatClampNeg → ((t24 = 0) → ((¬ t24 = 0) → ((¬ t23 = 0) → vp_in v3 60 ∧ ∀ x26 : QX, x26 = sA x 9 (upd (gA x 9) v3.toNatClampNeg (vp_nar .boolean (0 : Int32))) → rec v1 v2 (v3 + 1) x26) ∧ ((t23 = 0) → vp_in v3 60 ∧ ∀ x27 : QX, x27 = sA x 9 (upd (gA x 9) v3.toNatClampNeg (vp_nar .boolean (1 : Int32))) → rec v1 v2 (v3 + 1) x27)) ∧ ((t24 = 0) → ((t25 = 0) → vp_in v3 60 ∧ ∀ x28 : QX, x28 = sA x 9 (upd (gA x 9) v3.toNatClampNeg (vp_nar .boolean (0 : Int32))) → rec v1 v2 (v3 + 1) x28) ∧ (¬ (t25 = 0) → ((¬ t23 = 0) → vp_in v3 60 ∧ ∀ x29 : QX, x29 = sA x 9 (upd (gA x 9) v3.toNatClampNeg (vp_nar .boolean (0 : Int32))) → rec v1 v2 (v3 + 1) x29) ∧ ((t23 = 0) → vp_in v3 60 ∧ ∀ x30 : QX, x30 = sA x 9 (upd (gA x 9) v3.toNatClampNeg (vp_nar .boolean (1 : Int32))) → rec v1 v2 (v3 + 1) x30)))) ∧ (¬ (t24 = 0) → ((¬ t25 = 0) → vp_in v3 60 ∧ ∀ x31 : QX, x31 = sA x 9 (upd (gA x 9) v3.toNatClampNeg (vp_nar .boolean (1 : Int32))) → rec v1 v2 (v3 + 1) x31) ∧ ((t25 = 0) → ((¬ t24 = 0) → ((¬ t23 = 0) → vp_in v3 60 ∧ ∀ x32 : QX, x32 = sA x 9 (upd (gA x 9) v3.toNatClampNeg (vp_nar .boolean (0 : Int32))) → rec v1 v2 (v3 + 1) x32) ∧ ((t23 = 0) → vp_in v3 60 ∧ ∀ x33 : QX, x33 = sA x 9 (upd (gA x 9) v3.toNatClampNeg (vp_nar .boolean (1 : Int32))) → rec v1 v2 (v3 + 1) x33)) ∧ ((t24 = 0) → ((t25 = 0) → vp_in v3 60 ∧ ∀ x34 : QX, x34 = sA x 9 (upd (gA x 9) v3.toNatClampNeg (vp_nar .boolean (0 : Int32))) → rec v1 v2 (v3 + 1) x34) ∧ (¬ (t25 = 0) → ((¬ t23 = 0) → vp_in v3 60 ∧ ∀ x35 : QX, x35 = sA x 9 (upd (gA x 9) v3.toNatClampNeg (vp_nar .boolean (0 : Int32))) → rec v1 v2 (v3 + 1) x35) ∧ ((t23 = 0) → vp_in v3 60 ∧ ∀ x36 : QX, x36 = sA x 9 (upd (gA x 9) v3.toNatClampNeg (vp_nar .boolean (1 : Int32))) → rec v1 v2 (v3 + 1) x36)))))))))
def qw_M_join_H30  (post : Int32 → QX → Prop) : Nat → Int32 → Int32 → Int32 → QX → Prop
  | 0, _, _, _, _ => False
  | n + 1, v1, v2, v3, x => qw_M_join_S30  post (qw_M_join_H30  post n) v1 v2 v3 x
def qw_M_join  (x : QX) (post : Int32 → QX → Prop) : Prop :=
  ((¬ (gI x 3) = 0) → vp_in (0 : Int32) 2 ∧ (∀ t1 : Int32, t1 = gA x 8 (0 : Int32).toNatClampNeg → vp_in (1 : Int32) 2 ∧ (∀ t2 : Int32, t2 = gA x 8 (1 : Int32).toNatClampNeg → qw_M_begin t1 x (fun x3 => qw_M_join_H30 post qFU t1 t2 (0 : Int32) x3)))) ∧ (((gI x 3) = 0) → post (-1 : Int32) x)
def qw_M_operation  (x : QX) (post : Int32 → QX → Prop) : Prop :=
  qw_M_here x (fun r2 x1 => post r2 x1)
def qw_M_there (p1 : Int32) (x : QX) (post : Int32 → QX → Prop) : Prop :=
  ((p1 < 0) → post (0 : Int32) x) ∧ (¬ (p1 < 0) → (((gI x 2) ≤ p1) → post (0 : Int32) x) ∧ (¬ ((gI x 2) ≤ p1) → post (1 : Int32) x))
def qw_M_before (p1 : Int32) (p2 : Int32) (x : QX) (post : Int32 → QX → Prop) : Prop :=
  qw_M_there p1 x (fun r2 x1 => ((r2 = 0) → post (-1 : Int32) x1) ∧ (¬ (r2 = 0) → ((p2 < 0) → post (-1 : Int32) x1) ∧ (¬ (p2 < 0) → ((p2 ≤ (1 : Int32)) → ((¬ p2 = 0) → vp_in p1 100 ∧ (post (gA x1 3 p1.toNatClampNeg) x1)) ∧ ((p2 = 0) → vp_in p1 100 ∧ (post (gA x1 2 p1.toNatClampNeg) x1))) ∧ (¬ (p2 ≤ (1 : Int32)) → post (-1 : Int32) x1))))
def qw_M_visible (p1 : Int32) (p2 : Int32) (x : QX) (post : Int32 → QX → Prop) : Prop :=
  qw_M_there p1 x (fun r2 x1 => ((r2 = 0) → post (0 : Int32) x1) ∧ (¬ (r2 = 0) → qw_M_isVisible p1 p2 x1 (fun r4 x3 => ((r4 = 0) → post (0 : Int32) x3) ∧ (¬ (r4 = 0) → post (1 : Int32) x3))))
def qw_M_working (p1 : Int32) (x : QX) (post : Int32 → QX → Prop) : Prop :=
  qw_M_there p1 x (fun r2 x1 => ((r2 = 0) → post (-1 : Int32) x1) ∧ (¬ (r2 = 0) → vp_in p1 100 ∧ (post (gA x1 7 p1.toNatClampNeg) x1)))
def qw_M_marked (p1 : Int32) (p2 : Int32) (x : QX) (post : Int32 → QX → Prop) : Prop :=
  qw_M_there p1 x (fun r2 x1 => ((r2 = 0) → post (-1 : Int32) x1) ∧ (¬ (r2 = 0) → ((p2 < 0) → post (-1 : Int32) x1) ∧ (¬ (p2 < 0) → (((2 : Int32) < p2) → post (-1 : Int32) x1) ∧ (¬ ((2 : Int32) < p2) → vp_in (((3 : Int32) * p1) + p2) 300 ∧ (post (gA x1 6 (((3 : Int32) * p1) + p2).toNatClampNeg) x1)))))
def qw_M_isHead_S12 (post : Int32 → QX → Prop) (rec : Int32 → Int32 → Int32 → Int32 → QX → Prop) (v1 : Int32) (v2 : Int32) (v3 : Int32) (v4 : Int32) (x : QX) : Prop :=
  (((gI x 0) ≤ v4) → vp_nar .boolean v3 = v3 ∧ post v3 x) ∧ (¬ ((gI x 0) ≤ v4) → ((v3 = 0) → vp_nar .boolean v3 = v3 ∧ post v3 x) ∧ (¬ (v3 = 0) → qw_M_isVisible v1 v4 x (fun r5 x4 => ((r5 = 0) → rec v1 v2 (1 : Int32) (v4 + 1) x4) ∧ (¬ (r5 = 0) → vp_in v4 60 ∧ ((((gA x4 1 v4.toNatClampNeg) = v2) → rec v1 v2 (0 : Int32) (v4 + 1) x4) ∧ (¬ ((gA x4 1 v4.toNatClampNeg) = v2) → rec v1 v2 (1 : Int32) (v4 + 1) x4))))))
def qw_M_isHead_H12  (post : Int32 → QX → Prop) : Nat → Int32 → Int32 → Int32 → Int32 → QX → Prop
  | 0, _, _, _, _, _ => False
  | n + 1, v1, v2, v3, v4, x => qw_M_isHead_S12  post (qw_M_isHead_H12  post n) v1 v2 v3 v4 x
def qw_M_isHead (p1 : Int32) (p2 : Int32) (x : QX) (post : Int32 → QX → Prop) : Prop :=
  qw_M_isVisible p1 p2 x (fun r2 x1 => ∀ t3 : Int32, t3 = p2 + (1 : Int32) → qw_M_isHead_H12 post qFU p1 p2 r2 t3 x1)
def qw_M_head_S5 (post : Int32 → QX → Prop) (rec : Int32 → Int32 → Int32 → Int32 → QX → Prop) (v1 : Int32) (v2 : Int32) (v3 : Int32) (v4 : Int32) (x : QX) : Prop :=
  (((gI x 0) ≤ v4) → post (-1 : Int32) x) ∧ (¬ ((gI x 0) ≤ v4) → qw_M_there v1 x (fun r2 x1 => ((r2 = 0) → post (-1 : Int32) x1) ∧ (¬ (r2 = 0) → qw_M_isHead v1 v4 x1 (fun r4 x3 => ((r4 = 0) → rec v1 v2 v3 (v4 + 1) x3) ∧ (¬ (r4 = 0) → ((¬ v3 = 0) → rec v1 v2 (v3 + (-1)) (v4 + 1) x3) ∧ ((v3 = 0) → post v4 x3))))))
def qw_M_head_H5  (post : Int32 → QX → Prop) : Nat → Int32 → Int32 → Int32 → Int32 → QX → Prop
  | 0, _, _, _, _, _ => False
  | n + 1, v1, v2, v3, v4, x => qw_M_head_S5  post (qw_M_head_H5  post n) v1 v2 v3 v4 x
def qw_M_head (p1 : Int32) (p2 : Int32) (x : QX) (post : Int32 → QX → Prop) : Prop :=
  qw_M_head_H5 post qFU p1 p2 p2 (0 : Int32) x
def qw_M_commit (p1 : Int32) (p2 : Int32) (x : QX) (post : Int32 → QX → Prop) : Prop :=
  ((p1 < 0) → post (-1 : Int32) x) ∧ (¬ (p1 < 0) → (((gI x 0) ≤ p1) → post (-1 : Int32) x) ∧ (¬ ((gI x 0) ≤ p1) → ((p2 < 0) → post (-1 : Int32) x) ∧ (¬ (p2 < 0) → ((p2 ≤ (1 : Int32)) → ((¬ p2 = 0) → vp_in p1 60 ∧ (post (gA x 0 p1.toNatClampNeg) x)) ∧ ((p2 = 0) → vp_in p1 60 ∧ (post (gA x 1 p1.toNatClampNeg) x))) ∧ (¬ (p2 ≤ (1 : Int32)) → post (-1 : Int32) x))))
def qw_M_count (p1 : Int32) (p2 : Int32) (p3 : Int32) (x : QX) (post : Int64 → QX → Prop) : Prop :=
  ((p1 < 0) → post (0 : Int64) x) ∧ (¬ (p1 < 0) → (((gI x 0) ≤ p1) → post (0 : Int64) x) ∧ (¬ ((gI x 0) ≤ p1) → ((p2 < 0) → post (0 : Int64) x) ∧ (¬ (p2 < 0) → (((3 : Int32) < p2) → post (0 : Int64) x) ∧ (¬ ((3 : Int32) < p2) → ((p3 < 0) → post (0 : Int64) x) ∧ (¬ (p3 < 0) → ((p3 ≤ (7 : Int32)) → vp_in ((((32 : Int32) * p1) + ((8 : Int32) * p2)) + p3) 1920 ∧ (post (gB x 0 ((((32 : Int32) * p1) + ((8 : Int32) * p2)) + p3).toNatClampNeg) x)) ∧ (¬ (p3 ≤ (7 : Int32)) → post (0 : Int64) x))))))
