/-! determinants -/
def d2 (a b c d : Int) : Int := a * d - b * c
def d3 (a b c d e f g h i : Int) : Int := a * d2 e f h i - b * d2 d f g i + c * d2 d e g h
def d4 (a b c d e f g h i j k l m n o p : Int) : Int := a * d3 f g h j k l n o p - b * d3 e g h i k l m o p + c * d3 e f h i j l m n p - d * d3 e f g i j k m n o
theorem d3_id (a b c d e f g h i : Int) : d3 a b c d e f g h i * a = d2 a c g i * d2 a b d e - d2 a b g h * d2 a c d f := by
  unfold d3 d2
  grind
theorem d4_id (a b c d e f g h i j k l m n o p : Int) : d4 a b c d e f g h i j k l m n o p * d2 a b e f = d3 a b d e f h m n p * d3 a b c e f g i j k - d3 a b c e f g m n o * d3 a b d e f h i j l := by
  unfold d4 d3 d2
  grind
theorem d3_01 (a b c d e f g h i : Int) : d3 d e f a b c g h i = -d3 a b c d e f g h i := by
  unfold d3 d2
  grind
theorem d3_12 (a b c d e f g h i : Int) : d3 a b c g h i d e f = -d3 a b c d e f g h i := by
  unfold d3 d2
  grind
theorem d3_02 (a b c d e f g h i : Int) : d3 g h i d e f a b c = -d3 a b c d e f g h i := by
  unfold d3 d2
  grind
theorem d4_01 (a b c d e f g h i j k l m n o p : Int) : d4 e f g h a b c d i j k l m n o p = -d4 a b c d e f g h i j k l m n o p := by
  unfold d4 d3 d2
  grind
theorem d4_02 (a b c d e f g h i j k l m n o p : Int) : d4 i j k l e f g h a b c d m n o p = -d4 a b c d e f g h i j k l m n o p := by
  unfold d4 d3 d2
  grind
theorem d4_03 (a b c d e f g h i j k l m n o p : Int) : d4 m n o p e f g h i j k l a b c d = -d4 a b c d e f g h i j k l m n o p := by
  unfold d4 d3 d2
  grind
theorem d4_12 (a b c d e f g h i j k l m n o p : Int) : d4 a b c d i j k l e f g h m n o p = -d4 a b c d e f g h i j k l m n o p := by
  unfold d4 d3 d2
  grind
theorem d4_13 (a b c d e f g h i j k l m n o p : Int) : d4 a b c d m n o p i j k l e f g h = -d4 a b c d e f g h i j k l m n o p := by
  unfold d4 d3 d2
  grind
theorem d4_23 (a b c d e f g h i j k l m n o p : Int) : d4 a b c d e f g h m n o p i j k l = -d4 a b c d e f g h i j k l m n o p := by
  unfold d4 d3 d2
  grind
theorem d4_p (a b c d e f g h i j k l m n o p : Int) (h1 : a * f = b * e) (h2 : a * j = b * i) (h3 : a * n = b * m) : a * d4 a b c d e f g h i j k l m n o p = 0 := by
  have e1 : a * d4 a b c d e f g h i j k l m n o p = d4 a (a * b) c d e (a * f) g h i (a * j) k l m (a * n) o p := by
    unfold d4 d3 d2
    grind
  rw [e1, h1, h2, h3]
  unfold d4 d3 d2
  grind
theorem d4_b {a b c d e f g h i j k l m n o p : Int} (x1 : d3 f g h j k l n o p = 0) : True := trivial
