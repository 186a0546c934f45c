/-! SEM: what the bodies do, over the tables; a device: its value, its count; the trail: how many began, which are kept -/
def selTl : List Int32 := [0, 0, 0, 62, 0, 0, 0, 0, 0, 60, 61, 64, 0, 0, 0, 62, 0, 70, 0, 0, 0, 60, 61, 64, 0, 10, 11, 0, 0, 0, 0, 0, 0, 0, 0, 0, 0, 0, 21, 0, 20, 0, 0, 0, 0, 0, 0, 0, 0, 10, 30, 0, 20, 0, 0, 0, 0, 0, 0, 0, 0, 0, 0, 0, 0, 0, 40, 41, 0, 0, 0, 0, 0, 0, 0, 0, 0, 0, 40, 50, 51, 0, 0, 0, 100, 10, 11, 62, 0, 70, 0, 0, 0, 101, 61, 64, 0, 0, 21, 62, 111, 70, 0, 0, 0, 60, 110, 64, 0, 0, 0, 62, 0, 70, 120, 41, 0, 60, 61, 64, 130, 131, 11, 62, 0, 70, 0, 0, 0, 101, 61, 64, 140, 10, 141, 62, 111, 70, 0, 0, 0, 60, 142, 64, 150, 10, 30, 62, 152, 70, 120, 41, 0, 151, 61, 64, 0, 0, 0, 62, 0, 160, 40, 50, 161, 163, 61, 64, 0, 0, 0, 62, 0, 70, 120, 50, 51, 60, 61, 64, 130, 131, 181, 62, 0, 70, 0, 0, 0, 180, 61, 64, 190, 10, 30, 62, 111, 70, 0, 0, 0, 60, 110, 64, 140, 10, 202, 62, 111, 204, 40, 201, 51, 60, 142, 64]
def selT : Nat → Int32 := tab selTl
def borTl : List Int32 := [0, 0, 4, 8, 28, 32, 96, 4, 8, 32, 4, 12, 60, 96, 96, 4, 28, 124]
def borT : Nat → Int32 := tab borTl
abbrev St : Type := Int32 × Int32 × Int32 × (Nat → Int32)
def bgF (b : Int32) (f : Nat → Int32) (x : Int32) : Nat → Int32 := if b < 0 then f else if 64 ≤ b then f else upd f b.toNatClampNeg x
def bgS (x : Int32) (q : St) : St := (q.1, q.2.1, q.2.2.1 + 1, bgF q.2.2.1 q.2.2.2 x)
def bodyS (R : Int32 → Int32 → St → Int32 × St) (t b x : Int32) (q : St) : Int32 × St :=
  if b = 10 then (((R (selOfF selT t 0) x q).1) + 1, (R (selOfF selT t 0) x q).2) else
  if b = 11 then ((((R (selOfF selT t 1) x q).1) * 3) - ((R (selOfF selT t 0) (x + 1) ((R (selOfF selT t 1) x q).2)).1), (R (selOfF selT t 0) (x + 1) ((R (selOfF selT t 1) x q).2)).2) else
  if b = 20 then (((R (selOfF selT t 3) x q).1) + ((R (selOfF selT t 3) (x + 1) ((R (selOfF selT t 3) x q).2)).1), (R (selOfF selT t 3) (x + 1) ((R (selOfF selT t 3) x q).2)).2) else
  if b = 21 then (((R (selOfF selT t 4) x q).1) ^^^ 85, (R (selOfF selT t 4) x q).2) else
  if b = 30 then (((R (selOfF selT 2 2) x q).1) + ((R (selOfF selT 3 2) (x + 1) ((R (selOfF selT 2 2) x q).2)).1), (R (selOfF selT 3 2) (x + 1) ((R (selOfF selT 2 2) x q).2)).2) else
  if b = 40 then (((R (selOfF selT t 5) x q).1) + x, (R (selOfF selT t 5) x q).2) else
  if b = 41 then ((((R (selOfF selT t 6) x q).1) * 2) + ((R (selOfF selT t 6) 1 ((R (selOfF selT t 6) x q).2)).1), (R (selOfF selT t 6) 1 ((R (selOfF selT t 6) x q).2)).2) else
  if b = 50 then (((R (selOfF selT 5 7) x q).1) - ((R (selOfF selT t 8) x ((R (selOfF selT 5 7) x q).2)).1), (R (selOfF selT t 8) x ((R (selOfF selT 5 7) x q).2)).2) else
  if b = 51 then (((R 52 x q).1) + ((R (selOfF selT t 5) 2 ((R 52 x q).2)).1), (R (selOfF selT t 5) 2 ((R 52 x q).2)).2) else
  if b = 52 then (((R (selOfF selT t 5) x q).1) * 5, (R (selOfF selT t 5) x q).2) else
  if b = 60 then (((q.1 + x, q.2)).1, (q.1 + x, q.2)) else
  if b = 61 then (((q.1 - (3 * x), q.2)).1, (q.1 - (3 * x), q.2)) else
  if b = 62 then ((((q.1 * 31) + x, q.2)).1, ((q.1 * 31) + x, q.2)) else
  if b = 63 then (q.1 ^^^ x, q) else
  if b = 64 then ((((R (selOfF selT t 9) x q).1) + ((R (selOfF selT t 10) 1 ((R (selOfF selT t 9) x q).2)).1)) + ((R 63 x ((R (selOfF selT t 10) 1 ((R (selOfF selT t 9) x q).2)).2)).1), (R 63 x ((R (selOfF selT t 10) 1 ((R (selOfF selT t 9) x q).2)).2)).2) else
  if b = 70 then (((((q.1, q.2.1 + 1, q.2.2)).2.1) * 7) + x, (q.1, q.2.1 + 1, q.2.2)) else
  if b = 100 then (q.1 + x, q) else
  if b = 101 then (((R (selOfF selT (parentF 7) 9) (x + 2) q).1) + 1, (R (selOfF selT (parentF 7) 9) (x + 2) q).2) else
  if b = 110 then ((((R (selOfF selT (parentF 8) 10) x q).1) * 2) + ((R 112 x ((R (selOfF selT (parentF 8) 10) x q).2)).1), (R 112 x ((R (selOfF selT (parentF 8) 10) x q).2)).2) else
  if b = 111 then (((R (selOfF selT 3 4) x q).1) - 1, (R (selOfF selT 3 4) x q).2) else
  if b = 112 then (q.2.1 - x, q) else
  if b = 120 then ((((R (selOfF selT t 5) x q).1) * 3) + (((R (selOfF selT t 5) x q).2).1), (R (selOfF selT t 5) x q).2) else
  if b = 130 then (((R (selOfF selT (parentF 10) 0) x q).1) * 3, (R (selOfF selT (parentF 10) 0) x q).2) else
  if b = 131 then (((R (selOfF selT (parentF 10) 1) (x + 1) q).1) + 5, (R (selOfF selT (parentF 10) 1) (x + 1) q).2) else
  if b = 140 then (q.1 - x, q) else
  if b = 141 then (((R (selOfF selT (parentF 11) 2) x q).1) - ((R (selOfF selT 2 2) 1 ((R (selOfF selT (parentF 11) 2) x q).2)).1), (R (selOfF selT 2 2) 1 ((R (selOfF selT (parentF 11) 2) x q).2)).2) else
  if b = 142 then (((R (selOfF selT (parentF 11) 10) (x + 1) q).1) + 4, (R (selOfF selT (parentF 11) 10) (x + 1) q).2) else
  if b = 150 then (((R (selOfF selT t 5) x q).1) + (((R (selOfF selT t 5) x q).2).1), (R (selOfF selT t 5) x q).2) else
  if b = 151 then (((R (selOfF selT (parentF 12) 9) x q).1) ^^^ ((R (selOfF selT t 2) 0 ((R (selOfF selT (parentF 12) 9) x q).2)).1), (R (selOfF selT t 2) 0 ((R (selOfF selT (parentF 12) 9) x q).2)).2) else
  if b = 152 then (((R (selOfF selT 4 4) x q).1) + 1, (R (selOfF selT 4 4) x q).2) else
  if b = 160 then (x, q) else
  if b = 161 then (((R (selOfF selT 6 8) x q).1) &&& 255, (R (selOfF selT 6 8) x q).2) else
  if b = 162 then (x + 99, q) else
  if b = 163 then (((R 162 x q).1) + ((R (selOfF selT (parentF 13) 9) 1 ((R 162 x q).2)).1), (R (selOfF selT (parentF 13) 9) 1 ((R 162 x q).2)).2) else
  if b = 180 then (((R (selOfF selT (parentF 15) 9) x q).1) - 1, (R (selOfF selT (parentF 15) 9) x q).2) else
  if b = 181 then (((R (selOfF selT (parentF 15) 2) x q).1) + ((R (selOfF selT t 1) 2 ((R (selOfF selT (parentF 15) 2) x q).2)).1), (R (selOfF selT t 1) 2 ((R (selOfF selT (parentF 15) 2) x q).2)).2) else
  if b = 190 then (((R (selOfF selT t 10) x q).1) * 2, (R (selOfF selT t 10) x q).2) else
  if b = 200 then (q.2.1 + x, q) else
  if b = 201 then (((R (selOfF selT 6 7) x q).1) + ((R 200 x ((R (selOfF selT 6 7) x q).2)).1), (R 200 x ((R (selOfF selT 6 7) x q).2)).2) else
  if b = 202 then (((R (selOfF selT 4 2) x q).1) + ((R (selOfF selT (parentF 17) 2) x ((R (selOfF selT 4 2) x q).2)).1), (R (selOfF selT (parentF 17) 2) x ((R (selOfF selT 4 2) x q).2)).2) else
  if b = 204 then (((R (selOfF selT (parentF 17) 5) x q).1) + 1, (R (selOfF selT (parentF 17) 5) x q).2) else
  (0, q)
theorem bodyS_10 (R : Int32 → Int32 → St → Int32 × St) (t x : Int32) (q : St) : bodyS R t 10 x q = (((R (selOfF selT t 0) x q).1) + 1, (R (selOfF selT t 0) x q).2) := rfl
theorem bodyS_11 (R : Int32 → Int32 → St → Int32 × St) (t x : Int32) (q : St) : bodyS R t 11 x q = ((((R (selOfF selT t 1) x q).1) * 3) - ((R (selOfF selT t 0) (x + 1) ((R (selOfF selT t 1) x q).2)).1), (R (selOfF selT t 0) (x + 1) ((R (selOfF selT t 1) x q).2)).2) := rfl
theorem bodyS_20 (R : Int32 → Int32 → St → Int32 × St) (t x : Int32) (q : St) : bodyS R t 20 x q = (((R (selOfF selT t 3) x q).1) + ((R (selOfF selT t 3) (x + 1) ((R (selOfF selT t 3) x q).2)).1), (R (selOfF selT t 3) (x + 1) ((R (selOfF selT t 3) x q).2)).2) := rfl
theorem bodyS_21 (R : Int32 → Int32 → St → Int32 × St) (t x : Int32) (q : St) : bodyS R t 21 x q = (((R (selOfF selT t 4) x q).1) ^^^ 85, (R (selOfF selT t 4) x q).2) := rfl
theorem bodyS_30 (R : Int32 → Int32 → St → Int32 × St) (t x : Int32) (q : St) : bodyS R t 30 x q = (((R (selOfF selT 2 2) x q).1) + ((R (selOfF selT 3 2) (x + 1) ((R (selOfF selT 2 2) x q).2)).1), (R (selOfF selT 3 2) (x + 1) ((R (selOfF selT 2 2) x q).2)).2) := rfl
theorem bodyS_40 (R : Int32 → Int32 → St → Int32 × St) (t x : Int32) (q : St) : bodyS R t 40 x q = (((R (selOfF selT t 5) x q).1) + x, (R (selOfF selT t 5) x q).2) := rfl
theorem bodyS_41 (R : Int32 → Int32 → St → Int32 × St) (t x : Int32) (q : St) : bodyS R t 41 x q = ((((R (selOfF selT t 6) x q).1) * 2) + ((R (selOfF selT t 6) 1 ((R (selOfF selT t 6) x q).2)).1), (R (selOfF selT t 6) 1 ((R (selOfF selT t 6) x q).2)).2) := rfl
theorem bodyS_50 (R : Int32 → Int32 → St → Int32 × St) (t x : Int32) (q : St) : bodyS R t 50 x q = (((R (selOfF selT 5 7) x q).1) - ((R (selOfF selT t 8) x ((R (selOfF selT 5 7) x q).2)).1), (R (selOfF selT t 8) x ((R (selOfF selT 5 7) x q).2)).2) := rfl
theorem bodyS_51 (R : Int32 → Int32 → St → Int32 × St) (t x : Int32) (q : St) : bodyS R t 51 x q = (((R 52 x q).1) + ((R (selOfF selT t 5) 2 ((R 52 x q).2)).1), (R (selOfF selT t 5) 2 ((R 52 x q).2)).2) := rfl
theorem bodyS_52 (R : Int32 → Int32 → St → Int32 × St) (t x : Int32) (q : St) : bodyS R t 52 x q = (((R (selOfF selT t 5) x q).1) * 5, (R (selOfF selT t 5) x q).2) := rfl
theorem bodyS_60 (R : Int32 → Int32 → St → Int32 × St) (t x : Int32) (q : St) : bodyS R t 60 x q = (((q.1 + x, q.2)).1, (q.1 + x, q.2)) := rfl
theorem bodyS_61 (R : Int32 → Int32 → St → Int32 × St) (t x : Int32) (q : St) : bodyS R t 61 x q = (((q.1 - (3 * x), q.2)).1, (q.1 - (3 * x), q.2)) := rfl
theorem bodyS_62 (R : Int32 → Int32 → St → Int32 × St) (t x : Int32) (q : St) : bodyS R t 62 x q = ((((q.1 * 31) + x, q.2)).1, ((q.1 * 31) + x, q.2)) := rfl
theorem bodyS_63 (R : Int32 → Int32 → St → Int32 × St) (t x : Int32) (q : St) : bodyS R t 63 x q = (q.1 ^^^ x, q) := rfl
theorem bodyS_64 (R : Int32 → Int32 → St → Int32 × St) (t x : Int32) (q : St) : bodyS R t 64 x q = ((((R (selOfF selT t 9) x q).1) + ((R (selOfF selT t 10) 1 ((R (selOfF selT t 9) x q).2)).1)) + ((R 63 x ((R (selOfF selT t 10) 1 ((R (selOfF selT t 9) x q).2)).2)).1), (R 63 x ((R (selOfF selT t 10) 1 ((R (selOfF selT t 9) x q).2)).2)).2) := rfl
theorem bodyS_70 (R : Int32 → Int32 → St → Int32 × St) (t x : Int32) (q : St) : bodyS R t 70 x q = (((((q.1, q.2.1 + 1, q.2.2)).2.1) * 7) + x, (q.1, q.2.1 + 1, q.2.2)) := rfl
theorem bodyS_100 (R : Int32 → Int32 → St → Int32 × St) (t x : Int32) (q : St) : bodyS R t 100 x q = (q.1 + x, q) := rfl
theorem bodyS_101 (R : Int32 → Int32 → St → Int32 × St) (t x : Int32) (q : St) : bodyS R t 101 x q = (((R (selOfF selT (parentF 7) 9) (x + 2) q).1) + 1, (R (selOfF selT (parentF 7) 9) (x + 2) q).2) := rfl
theorem bodyS_110 (R : Int32 → Int32 → St → Int32 × St) (t x : Int32) (q : St) : bodyS R t 110 x q = ((((R (selOfF selT (parentF 8) 10) x q).1) * 2) + ((R 112 x ((R (selOfF selT (parentF 8) 10) x q).2)).1), (R 112 x ((R (selOfF selT (parentF 8) 10) x q).2)).2) := rfl
theorem bodyS_111 (R : Int32 → Int32 → St → Int32 × St) (t x : Int32) (q : St) : bodyS R t 111 x q = (((R (selOfF selT 3 4) x q).1) - 1, (R (selOfF selT 3 4) x q).2) := rfl
theorem bodyS_112 (R : Int32 → Int32 → St → Int32 × St) (t x : Int32) (q : St) : bodyS R t 112 x q = (q.2.1 - x, q) := rfl
theorem bodyS_120 (R : Int32 → Int32 → St → Int32 × St) (t x : Int32) (q : St) : bodyS R t 120 x q = ((((R (selOfF selT t 5) x q).1) * 3) + (((R (selOfF selT t 5) x q).2).1), (R (selOfF selT t 5) x q).2) := rfl
theorem bodyS_130 (R : Int32 → Int32 → St → Int32 × St) (t x : Int32) (q : St) : bodyS R t 130 x q = (((R (selOfF selT (parentF 10) 0) x q).1) * 3, (R (selOfF selT (parentF 10) 0) x q).2) := rfl
theorem bodyS_131 (R : Int32 → Int32 → St → Int32 × St) (t x : Int32) (q : St) : bodyS R t 131 x q = (((R (selOfF selT (parentF 10) 1) (x + 1) q).1) + 5, (R (selOfF selT (parentF 10) 1) (x + 1) q).2) := rfl
theorem bodyS_140 (R : Int32 → Int32 → St → Int32 × St) (t x : Int32) (q : St) : bodyS R t 140 x q = (q.1 - x, q) := rfl
theorem bodyS_141 (R : Int32 → Int32 → St → Int32 × St) (t x : Int32) (q : St) : bodyS R t 141 x q = (((R (selOfF selT (parentF 11) 2) x q).1) - ((R (selOfF selT 2 2) 1 ((R (selOfF selT (parentF 11) 2) x q).2)).1), (R (selOfF selT 2 2) 1 ((R (selOfF selT (parentF 11) 2) x q).2)).2) := rfl
theorem bodyS_142 (R : Int32 → Int32 → St → Int32 × St) (t x : Int32) (q : St) : bodyS R t 142 x q = (((R (selOfF selT (parentF 11) 10) (x + 1) q).1) + 4, (R (selOfF selT (parentF 11) 10) (x + 1) q).2) := rfl
theorem bodyS_150 (R : Int32 → Int32 → St → Int32 × St) (t x : Int32) (q : St) : bodyS R t 150 x q = (((R (selOfF selT t 5) x q).1) + (((R (selOfF selT t 5) x q).2).1), (R (selOfF selT t 5) x q).2) := rfl
theorem bodyS_151 (R : Int32 → Int32 → St → Int32 × St) (t x : Int32) (q : St) : bodyS R t 151 x q = (((R (selOfF selT (parentF 12) 9) x q).1) ^^^ ((R (selOfF selT t 2) 0 ((R (selOfF selT (parentF 12) 9) x q).2)).1), (R (selOfF selT t 2) 0 ((R (selOfF selT (parentF 12) 9) x q).2)).2) := rfl
theorem bodyS_152 (R : Int32 → Int32 → St → Int32 × St) (t x : Int32) (q : St) : bodyS R t 152 x q = (((R (selOfF selT 4 4) x q).1) + 1, (R (selOfF selT 4 4) x q).2) := rfl
theorem bodyS_160 (R : Int32 → Int32 → St → Int32 × St) (t x : Int32) (q : St) : bodyS R t 160 x q = (x, q) := rfl
theorem bodyS_161 (R : Int32 → Int32 → St → Int32 × St) (t x : Int32) (q : St) : bodyS R t 161 x q = (((R (selOfF selT 6 8) x q).1) &&& 255, (R (selOfF selT 6 8) x q).2) := rfl
theorem bodyS_162 (R : Int32 → Int32 → St → Int32 × St) (t x : Int32) (q : St) : bodyS R t 162 x q = (x + 99, q) := rfl
theorem bodyS_163 (R : Int32 → Int32 → St → Int32 × St) (t x : Int32) (q : St) : bodyS R t 163 x q = (((R 162 x q).1) + ((R (selOfF selT (parentF 13) 9) 1 ((R 162 x q).2)).1), (R (selOfF selT (parentF 13) 9) 1 ((R 162 x q).2)).2) := rfl
theorem bodyS_180 (R : Int32 → Int32 → St → Int32 × St) (t x : Int32) (q : St) : bodyS R t 180 x q = (((R (selOfF selT (parentF 15) 9) x q).1) - 1, (R (selOfF selT (parentF 15) 9) x q).2) := rfl
theorem bodyS_181 (R : Int32 → Int32 → St → Int32 × St) (t x : Int32) (q : St) : bodyS R t 181 x q = (((R (selOfF selT (parentF 15) 2) x q).1) + ((R (selOfF selT t 1) 2 ((R (selOfF selT (parentF 15) 2) x q).2)).1), (R (selOfF selT t 1) 2 ((R (selOfF selT (parentF 15) 2) x q).2)).2) := rfl
theorem bodyS_190 (R : Int32 → Int32 → St → Int32 × St) (t x : Int32) (q : St) : bodyS R t 190 x q = (((R (selOfF selT t 10) x q).1) * 2, (R (selOfF selT t 10) x q).2) := rfl
theorem bodyS_200 (R : Int32 → Int32 → St → Int32 × St) (t x : Int32) (q : St) : bodyS R t 200 x q = (q.2.1 + x, q) := rfl
theorem bodyS_201 (R : Int32 → Int32 → St → Int32 × St) (t x : Int32) (q : St) : bodyS R t 201 x q = (((R (selOfF selT 6 7) x q).1) + ((R 200 x ((R (selOfF selT 6 7) x q).2)).1), (R 200 x ((R (selOfF selT 6 7) x q).2)).2) := rfl
theorem bodyS_202 (R : Int32 → Int32 → St → Int32 × St) (t x : Int32) (q : St) : bodyS R t 202 x q = (((R (selOfF selT 4 2) x q).1) + ((R (selOfF selT (parentF 17) 2) x ((R (selOfF selT 4 2) x q).2)).1), (R (selOfF selT (parentF 17) 2) x ((R (selOfF selT 4 2) x q).2)).2) := rfl
theorem bodyS_204 (R : Int32 → Int32 → St → Int32 × St) (t x : Int32) (q : St) : bodyS R t 204 x q = (((R (selOfF selT (parentF 17) 5) x q).1) + 1, (R (selOfF selT (parentF 17) 5) x q).2) := rfl
def runS : Nat → Int32 → Int32 → Int32 → St → Int32 × St
  | 0, _, _, _, q => (0, q)
  | n + 1, t, b, x, q => if b = 0 then (0, q) else bodyS (runS n t) t b x (bgS b q)
def okBl : List Int32 := [0, 10, 11, 20, 21, 30, 40, 41, 50, 51, 52, 60, 61, 62, 63, 64, 70, 100, 101, 110, 111, 112, 120, 130, 131, 140, 141, 142, 150, 151, 152, 160, 161, 162, 163, 180, 181, 190, 200, 201, 202, 204]
def okBI (b : Int32) : Prop := b = 10 ∨ b = 11 ∨ b = 20 ∨ b = 21 ∨ b = 30 ∨ b = 40 ∨ b = 41 ∨ b = 50 ∨ b = 51 ∨ b = 52
theorem okBI_of : ∀ b ∈ okBl, ¬ b = 0 → ¬ 60 ≤ b → okBI b := by unfold okBI; decide +kernel
def okBA (b : Int32) : Prop := b = 60 ∨ b = 61 ∨ b = 62 ∨ b = 63 ∨ b = 64 ∨ b = 70
theorem okBA_of : ∀ b ∈ okBl, ¬ b = 0 → 60 ≤ b → ¬ 100 ≤ b → okBA b := by unfold okBA; decide +kernel
def okBE (b : Int32) : Prop := b = 100 ∨ b = 101 ∨ b = 110 ∨ b = 111 ∨ b = 112 ∨ b = 120 ∨ b = 130 ∨ b = 131 ∨ b = 140 ∨ b = 141 ∨ b = 142
theorem okBE_of : ∀ b ∈ okBl, ¬ b = 0 → 60 ≤ b → 100 ≤ b → ¬ 150 ≤ b → okBE b := by unfold okBE; decide +kernel
def okBL (b : Int32) : Prop := b = 150 ∨ b = 151 ∨ b = 152 ∨ b = 160 ∨ b = 161 ∨ b = 162 ∨ b = 163 ∨ b = 180 ∨ b = 181 ∨ b = 190 ∨ b = 200 ∨ b = 201 ∨ b = 202 ∨ b = 204
theorem okBL_of : ∀ b ∈ okBl, ¬ b = 0 → 60 ≤ b → 100 ≤ b → 150 ≤ b → okBL b := by unfold okBL; decide +kernel
theorem okB_tab : ∀ j, j < 216 → selT j ∈ okBl := by decide +kernel
theorem okB_sel (t a : Int32) : selOfF selT t a ∈ okBl := by
  unfold selOfF
  by_cases h1 : isTypeF t = 0
  · rw [if_pos h1]; decide +kernel
  · rw [if_neg h1]
    by_cases h2 : isActF a = 0
    · rw [if_pos h2]; decide +kernel
    · rw [if_neg h2]
      exact okB_tab _ (Nat.not_le.mp fun q => in_ta (isTypeF_in h1) (isActF_in h2) (Or.inr q))
theorem okB_52 : (52 : Int32) ∈ okBl := by decide +kernel
theorem okB_63 : (63 : Int32) ∈ okBl := by decide +kernel
theorem okB_112 : (112 : Int32) ∈ okBl := by decide +kernel
theorem okB_162 : (162 : Int32) ∈ okBl := by decide +kernel
theorem okB_200 : (200 : Int32) ∈ okBl := by decide +kernel
def takActF (t : Int32) : Int32 := takOfF borT t
def dW (G : hG) (ad : Nat → Nat) (ct : Nat → Option va_E) (k : Nat) (t : Int32) (r : Nat → Value) (q : St) : Prop :=
  ct k = some (.inr (0, [.ref (ad 1), .ref (ad 2), .int t, .int (takActF t), .int q.1, .int q.2.1, r 5, r 6, r 7, r 8, r 9, r 10, r 11])) ∧ ct 2 = some (.inr (3, [.ref (ad 3), .int q.2.2.1])) ∧ ct 3 = some (.inl (G.2.1.1, 64, .inl q.2.2.2))
