

def strT : List Term := [.string "QuarterWalksModel" 114, .string "QuarterWalksModel" 120, .string "QuarterWalksModel" 122, .string "QuarterWalksModel" 124, .string "QuarterWalksModel" 126, .string "QuarterWalksModel" 128, .string "QuarterWalksModel" 130, .string "QuarterWalksModel" 132, .string "QuarterWalksModel" 144, .string "QuarterWalksModel" 420, .string "QuarterWalksModel" 432, .string "QuarterWalks$Tape" 82]
def flat1 : List Cond := flatC (Jvm.Cond.and given_1 narrow_1)
def flatL : List Cond := [Jvm.Cond.arrayOf (Jvm.Term.arg (0 : Nat)) Jvm.ClassFile.FieldType.int,
  Jvm.Cond.le (Jvm.Term.length (Jvm.Term.arg (0 : Nat))) (Jvm.Term.int (4096 : Int32)),
  Jvm.Cond.eq (Jvm.Term.static "java/lang/String" "COMPACT_STRINGS" "Z") (Jvm.Term.int (1 : Int32)),
  Jvm.Cond.isRef (Jvm.Term.static "jdk/internal/util/Preconditions" "SIOOBE_FORMATTER" "Ljava/util/function/BiFunction;"),
  Jvm.Cond.eq (Jvm.Term.static "java/lang/StringUTF16" "$assertionsDisabled" "Z") (Jvm.Term.int (1 : Int32)),
  Jvm.Cond.eq (Jvm.Term.static "java/lang/StringUTF16" "HI_BYTE_SHIFT" "I") (Jvm.Term.int (0 : Int32)),
  Jvm.Cond.eq (Jvm.Term.static "java/lang/StringUTF16" "LO_BYTE_SHIFT" "I") (Jvm.Term.int (8 : Int32)),
  Jvm.Cond.isRef (Jvm.Term.static "QuarterWalks" "MIRRORED" "[I"),
  Jvm.Cond.arrayOf (Jvm.Term.static "QuarterWalks" "MIRRORED" "[I") Jvm.ClassFile.FieldType.int,
  Jvm.Cond.eq (Jvm.Term.length (Jvm.Term.static "QuarterWalks" "MIRRORED" "[I")) (Jvm.Term.int (8 : Int32)),
  Jvm.Cond.eq (Jvm.Term.elem (Jvm.Term.static "QuarterWalks" "MIRRORED" "[I") (Jvm.Term.int (0 : Int32))) (Jvm.Term.int (2 : Int32)),
  Jvm.Cond.eq (Jvm.Term.elem (Jvm.Term.static "QuarterWalks" "MIRRORED" "[I") (Jvm.Term.int (1 : Int32))) (Jvm.Term.int (1 : Int32)),
  Jvm.Cond.eq (Jvm.Term.elem (Jvm.Term.static "QuarterWalks" "MIRRORED" "[I") (Jvm.Term.int (2 : Int32))) (Jvm.Term.int (0 : Int32)),
  Jvm.Cond.eq (Jvm.Term.elem (Jvm.Term.static "QuarterWalks" "MIRRORED" "[I") (Jvm.Term.int (3 : Int32))) (Jvm.Term.int (7 : Int32)),
  Jvm.Cond.eq (Jvm.Term.elem (Jvm.Term.static "QuarterWalks" "MIRRORED" "[I") (Jvm.Term.int (4 : Int32))) (Jvm.Term.int (6 : Int32)),
  Jvm.Cond.eq (Jvm.Term.elem (Jvm.Term.static "QuarterWalks" "MIRRORED" "[I") (Jvm.Term.int (5 : Int32))) (Jvm.Term.int (5 : Int32)),
  Jvm.Cond.eq (Jvm.Term.elem (Jvm.Term.static "QuarterWalks" "MIRRORED" "[I") (Jvm.Term.int (6 : Int32))) (Jvm.Term.int (4 : Int32)),
  Jvm.Cond.eq (Jvm.Term.elem (Jvm.Term.static "QuarterWalks" "MIRRORED" "[I") (Jvm.Term.int (7 : Int32))) (Jvm.Term.int (3 : Int32)),
  Jvm.Cond.isRef (Jvm.Term.static "QuarterWalks" "OPPOSITE" "[I"),
  Jvm.Cond.arrayOf (Jvm.Term.static "QuarterWalks" "OPPOSITE" "[I") Jvm.ClassFile.FieldType.int,
  Jvm.Cond.eq (Jvm.Term.length (Jvm.Term.static "QuarterWalks" "OPPOSITE" "[I")) (Jvm.Term.int (8 : Int32)),
  Jvm.Cond.eq (Jvm.Term.elem (Jvm.Term.static "QuarterWalks" "OPPOSITE" "[I") (Jvm.Term.int (0 : Int32))) (Jvm.Term.int (4 : Int32)),
  Jvm.Cond.eq (Jvm.Term.elem (Jvm.Term.static "QuarterWalks" "OPPOSITE" "[I") (Jvm.Term.int (1 : Int32))) (Jvm.Term.int (5 : Int32)),
  Jvm.Cond.eq (Jvm.Term.elem (Jvm.Term.static "QuarterWalks" "OPPOSITE" "[I") (Jvm.Term.int (2 : Int32))) (Jvm.Term.int (6 : Int32)),
  Jvm.Cond.eq (Jvm.Term.elem (Jvm.Term.static "QuarterWalks" "OPPOSITE" "[I") (Jvm.Term.int (3 : Int32))) (Jvm.Term.int (7 : Int32)),
  Jvm.Cond.eq (Jvm.Term.elem (Jvm.Term.static "QuarterWalks" "OPPOSITE" "[I") (Jvm.Term.int (4 : Int32))) (Jvm.Term.int (0 : Int32)),
  Jvm.Cond.eq (Jvm.Term.elem (Jvm.Term.static "QuarterWalks" "OPPOSITE" "[I") (Jvm.Term.int (5 : Int32))) (Jvm.Term.int (1 : Int32)),
  Jvm.Cond.eq (Jvm.Term.elem (Jvm.Term.static "QuarterWalks" "OPPOSITE" "[I") (Jvm.Term.int (6 : Int32))) (Jvm.Term.int (2 : Int32)),
  Jvm.Cond.eq (Jvm.Term.elem (Jvm.Term.static "QuarterWalks" "OPPOSITE" "[I") (Jvm.Term.int (7 : Int32))) (Jvm.Term.int (3 : Int32)),
  Jvm.Cond.isRef (Jvm.Term.static "QuarterWalks" "DX" "[I"),
  Jvm.Cond.arrayOf (Jvm.Term.static "QuarterWalks" "DX" "[I") Jvm.ClassFile.FieldType.int,
  Jvm.Cond.eq (Jvm.Term.length (Jvm.Term.static "QuarterWalks" "DX" "[I")) (Jvm.Term.int (8 : Int32)),
  Jvm.Cond.eq (Jvm.Term.elem (Jvm.Term.static "QuarterWalks" "DX" "[I") (Jvm.Term.int (0 : Int32))) (Jvm.Term.int (0 : Int32)),
  Jvm.Cond.eq (Jvm.Term.elem (Jvm.Term.static "QuarterWalks" "DX" "[I") (Jvm.Term.int (1 : Int32))) (Jvm.Term.int (1 : Int32)),
  Jvm.Cond.eq (Jvm.Term.elem (Jvm.Term.static "QuarterWalks" "DX" "[I") (Jvm.Term.int (2 : Int32))) (Jvm.Term.int (1 : Int32)),
  Jvm.Cond.eq (Jvm.Term.elem (Jvm.Term.static "QuarterWalks" "DX" "[I") (Jvm.Term.int (3 : Int32))) (Jvm.Term.int (1 : Int32)),
  Jvm.Cond.eq (Jvm.Term.elem (Jvm.Term.static "QuarterWalks" "DX" "[I") (Jvm.Term.int (4 : Int32))) (Jvm.Term.int (0 : Int32)),
  Jvm.Cond.eq (Jvm.Term.elem (Jvm.Term.static "QuarterWalks" "DX" "[I") (Jvm.Term.int (5 : Int32))) (Jvm.Term.int (-1 : Int32)),
  Jvm.Cond.eq (Jvm.Term.elem (Jvm.Term.static "QuarterWalks" "DX" "[I") (Jvm.Term.int (6 : Int32))) (Jvm.Term.int (-1 : Int32)),
  Jvm.Cond.eq (Jvm.Term.elem (Jvm.Term.static "QuarterWalks" "DX" "[I") (Jvm.Term.int (7 : Int32))) (Jvm.Term.int (-1 : Int32)),
  Jvm.Cond.isRef (Jvm.Term.static "QuarterWalks" "DY" "[I"),
  Jvm.Cond.arrayOf (Jvm.Term.static "QuarterWalks" "DY" "[I") Jvm.ClassFile.FieldType.int,
  Jvm.Cond.eq (Jvm.Term.length (Jvm.Term.static "QuarterWalks" "DY" "[I")) (Jvm.Term.int (8 : Int32)),
  Jvm.Cond.eq (Jvm.Term.elem (Jvm.Term.static "QuarterWalks" "DY" "[I") (Jvm.Term.int (0 : Int32))) (Jvm.Term.int (1 : Int32)),
  Jvm.Cond.eq (Jvm.Term.elem (Jvm.Term.static "QuarterWalks" "DY" "[I") (Jvm.Term.int (1 : Int32))) (Jvm.Term.int (1 : Int32)),
  Jvm.Cond.eq (Jvm.Term.elem (Jvm.Term.static "QuarterWalks" "DY" "[I") (Jvm.Term.int (2 : Int32))) (Jvm.Term.int (0 : Int32)),
  Jvm.Cond.eq (Jvm.Term.elem (Jvm.Term.static "QuarterWalks" "DY" "[I") (Jvm.Term.int (3 : Int32))) (Jvm.Term.int (-1 : Int32)),
  Jvm.Cond.eq (Jvm.Term.elem (Jvm.Term.static "QuarterWalks" "DY" "[I") (Jvm.Term.int (4 : Int32))) (Jvm.Term.int (-1 : Int32)),
  Jvm.Cond.eq (Jvm.Term.elem (Jvm.Term.static "QuarterWalks" "DY" "[I") (Jvm.Term.int (5 : Int32))) (Jvm.Term.int (-1 : Int32)),
  Jvm.Cond.eq (Jvm.Term.elem (Jvm.Term.static "QuarterWalks" "DY" "[I") (Jvm.Term.int (6 : Int32))) (Jvm.Term.int (0 : Int32)),
  Jvm.Cond.eq (Jvm.Term.elem (Jvm.Term.static "QuarterWalks" "DY" "[I") (Jvm.Term.int (7 : Int32))) (Jvm.Term.int (1 : Int32)),
  Jvm.Cond.isRef (Jvm.Term.static "QuarterWalks" "X_LESS" "[I"),
  Jvm.Cond.arrayOf (Jvm.Term.static "QuarterWalks" "X_LESS" "[I") Jvm.ClassFile.FieldType.int,
  Jvm.Cond.eq (Jvm.Term.length (Jvm.Term.static "QuarterWalks" "X_LESS" "[I")) (Jvm.Term.int (8 : Int32)),
  Jvm.Cond.eq (Jvm.Term.elem (Jvm.Term.static "QuarterWalks" "X_LESS" "[I") (Jvm.Term.int (0 : Int32))) (Jvm.Term.int (0 : Int32)),
  Jvm.Cond.eq (Jvm.Term.elem (Jvm.Term.static "QuarterWalks" "X_LESS" "[I") (Jvm.Term.int (1 : Int32))) (Jvm.Term.int (7 : Int32)),
  Jvm.Cond.eq (Jvm.Term.elem (Jvm.Term.static "QuarterWalks" "X_LESS" "[I") (Jvm.Term.int (2 : Int32))) (Jvm.Term.int (6 : Int32)),
  Jvm.Cond.eq (Jvm.Term.elem (Jvm.Term.static "QuarterWalks" "X_LESS" "[I") (Jvm.Term.int (3 : Int32))) (Jvm.Term.int (5 : Int32)),
  Jvm.Cond.eq (Jvm.Term.elem (Jvm.Term.static "QuarterWalks" "X_LESS" "[I") (Jvm.Term.int (4 : Int32))) (Jvm.Term.int (4 : Int32)),
  Jvm.Cond.eq (Jvm.Term.elem (Jvm.Term.static "QuarterWalks" "X_LESS" "[I") (Jvm.Term.int (5 : Int32))) (Jvm.Term.int (3 : Int32)),
  Jvm.Cond.eq (Jvm.Term.elem (Jvm.Term.static "QuarterWalks" "X_LESS" "[I") (Jvm.Term.int (6 : Int32))) (Jvm.Term.int (2 : Int32)),
  Jvm.Cond.eq (Jvm.Term.elem (Jvm.Term.static "QuarterWalks" "X_LESS" "[I") (Jvm.Term.int (7 : Int32))) (Jvm.Term.int (1 : Int32)),
  Jvm.Cond.isRef (Jvm.Term.static "QuarterWalks" "Y_LESS" "[I"),
  Jvm.Cond.arrayOf (Jvm.Term.static "QuarterWalks" "Y_LESS" "[I") Jvm.ClassFile.FieldType.int,
  Jvm.Cond.eq (Jvm.Term.length (Jvm.Term.static "QuarterWalks" "Y_LESS" "[I")) (Jvm.Term.int (8 : Int32)),
  Jvm.Cond.eq (Jvm.Term.elem (Jvm.Term.static "QuarterWalks" "Y_LESS" "[I") (Jvm.Term.int (0 : Int32))) (Jvm.Term.int (4 : Int32)),
  Jvm.Cond.eq (Jvm.Term.elem (Jvm.Term.static "QuarterWalks" "Y_LESS" "[I") (Jvm.Term.int (1 : Int32))) (Jvm.Term.int (3 : Int32)),
  Jvm.Cond.eq (Jvm.Term.elem (Jvm.Term.static "QuarterWalks" "Y_LESS" "[I") (Jvm.Term.int (2 : Int32))) (Jvm.Term.int (2 : Int32)),
  Jvm.Cond.eq (Jvm.Term.elem (Jvm.Term.static "QuarterWalks" "Y_LESS" "[I") (Jvm.Term.int (3 : Int32))) (Jvm.Term.int (1 : Int32)),
  Jvm.Cond.eq (Jvm.Term.elem (Jvm.Term.static "QuarterWalks" "Y_LESS" "[I") (Jvm.Term.int (4 : Int32))) (Jvm.Term.int (0 : Int32)),
  Jvm.Cond.eq (Jvm.Term.elem (Jvm.Term.static "QuarterWalks" "Y_LESS" "[I") (Jvm.Term.int (5 : Int32))) (Jvm.Term.int (7 : Int32)),
  Jvm.Cond.eq (Jvm.Term.elem (Jvm.Term.static "QuarterWalks" "Y_LESS" "[I") (Jvm.Term.int (6 : Int32))) (Jvm.Term.int (6 : Int32)),
  Jvm.Cond.eq (Jvm.Term.elem (Jvm.Term.static "QuarterWalks" "Y_LESS" "[I") (Jvm.Term.int (7 : Int32))) (Jvm.Term.int (5 : Int32)),
  Jvm.Cond.isRef (Jvm.Term.static "java/lang/Integer" "DigitOnes" "[B"),
  Jvm.Cond.arrayOf (Jvm.Term.static "java/lang/Integer" "DigitOnes" "[B") Jvm.ClassFile.FieldType.byte,
  Jvm.Cond.eq (Jvm.Term.length (Jvm.Term.static "java/lang/Integer" "DigitOnes" "[B")) (Jvm.Term.int (100 : Int32)),
  Jvm.Cond.eq (Jvm.Term.elem (Jvm.Term.static "java/lang/Integer" "DigitOnes" "[B") (Jvm.Term.int (0 : Int32))) (Jvm.Term.int (48 : Int32)),
  Jvm.Cond.eq (Jvm.Term.elem (Jvm.Term.static "java/lang/Integer" "DigitOnes" "[B") (Jvm.Term.int (1 : Int32))) (Jvm.Term.int (49 : Int32)),
  Jvm.Cond.eq (Jvm.Term.elem (Jvm.Term.static "java/lang/Integer" "DigitOnes" "[B") (Jvm.Term.int (2 : Int32))) (Jvm.Term.int (50 : Int32)),
  Jvm.Cond.eq (Jvm.Term.elem (Jvm.Term.static "java/lang/Integer" "DigitOnes" "[B") (Jvm.Term.int (3 : Int32))) (Jvm.Term.int (51 : Int32)),
  Jvm.Cond.eq (Jvm.Term.elem (Jvm.Term.static "java/lang/Integer" "DigitOnes" "[B") (Jvm.Term.int (4 : Int32))) (Jvm.Term.int (52 : Int32)),
  Jvm.Cond.eq (Jvm.Term.elem (Jvm.Term.static "java/lang/Integer" "DigitOnes" "[B") (Jvm.Term.int (5 : Int32))) (Jvm.Term.int (53 : Int32)),
  Jvm.Cond.eq (Jvm.Term.elem (Jvm.Term.static "java/lang/Integer" "DigitOnes" "[B") (Jvm.Term.int (6 : Int32))) (Jvm.Term.int (54 : Int32)),
  Jvm.Cond.eq (Jvm.Term.elem (Jvm.Term.static "java/lang/Integer" "DigitOnes" "[B") (Jvm.Term.int (7 : Int32))) (Jvm.Term.int (55 : Int32)),
  Jvm.Cond.eq (Jvm.Term.elem (Jvm.Term.static "java/lang/Integer" "DigitOnes" "[B") (Jvm.Term.int (8 : Int32))) (Jvm.Term.int (56 : Int32)),
  Jvm.Cond.eq (Jvm.Term.elem (Jvm.Term.static "java/lang/Integer" "DigitOnes" "[B") (Jvm.Term.int (9 : Int32))) (Jvm.Term.int (57 : Int32)),
  Jvm.Cond.eq (Jvm.Term.elem (Jvm.Term.static "java/lang/Integer" "DigitOnes" "[B") (Jvm.Term.int (10 : Int32))) (Jvm.Term.int (48 : Int32)),
  Jvm.Cond.eq (Jvm.Term.elem (Jvm.Term.static "java/lang/Integer" "DigitOnes" "[B") (Jvm.Term.int (11 : Int32))) (Jvm.Term.int (49 : Int32)),
  Jvm.Cond.eq (Jvm.Term.elem (Jvm.Term.static "java/lang/Integer" "DigitOnes" "[B") (Jvm.Term.int (12 : Int32))) (Jvm.Term.int (50 : Int32)),
  Jvm.Cond.eq (Jvm.Term.elem (Jvm.Term.static "java/lang/Integer" "DigitOnes" "[B") (Jvm.Term.int (13 : Int32))) (Jvm.Term.int (51 : Int32)),
  Jvm.Cond.eq (Jvm.Term.elem (Jvm.Term.static "java/lang/Integer" "DigitOnes" "[B") (Jvm.Term.int (14 : Int32))) (Jvm.Term.int (52 : Int32)),
  Jvm.Cond.eq (Jvm.Term.elem (Jvm.Term.static "java/lang/Integer" "DigitOnes" "[B") (Jvm.Term.int (15 : Int32))) (Jvm.Term.int (53 : Int32)),
  Jvm.Cond.eq (Jvm.Term.elem (Jvm.Term.static "java/lang/Integer" "DigitOnes" "[B") (Jvm.Term.int (16 : Int32))) (Jvm.Term.int (54 : Int32)),
  Jvm.Cond.eq (Jvm.Term.elem (Jvm.Term.static "java/lang/Integer" "DigitOnes" "[B") (Jvm.Term.int (17 : Int32))) (Jvm.Term.int (55 : Int32)),
  Jvm.Cond.eq (Jvm.Term.elem (Jvm.Term.static "java/lang/Integer" "DigitOnes" "[B") (Jvm.Term.int (18 : Int32))) (Jvm.Term.int (56 : Int32)),
  Jvm.Cond.eq (Jvm.Term.elem (Jvm.Term.static "java/lang/Integer" "DigitOnes" "[B") (Jvm.Term.int (19 : Int32))) (Jvm.Term.int (57 : Int32)),
  Jvm.Cond.eq (Jvm.Term.elem (Jvm.Term.static "java/lang/Integer" "DigitOnes" "[B") (Jvm.Term.int (20 : Int32))) (Jvm.Term.int (48 : Int32)),
  Jvm.Cond.eq (Jvm.Term.elem (Jvm.Term.static "java/lang/Integer" "DigitOnes" "[B") (Jvm.Term.int (21 : Int32))) (Jvm.Term.int (49 : Int32)),
  Jvm.Cond.eq (Jvm.Term.elem (Jvm.Term.static "java/lang/Integer" "DigitOnes" "[B") (Jvm.Term.int (22 : Int32))) (Jvm.Term.int (50 : Int32)),
  Jvm.Cond.eq (Jvm.Term.elem (Jvm.Term.static "java/lang/Integer" "DigitOnes" "[B") (Jvm.Term.int (23 : Int32))) (Jvm.Term.int (51 : Int32)),
  Jvm.Cond.eq (Jvm.Term.elem (Jvm.Term.static "java/lang/Integer" "DigitOnes" "[B") (Jvm.Term.int (24 : Int32))) (Jvm.Term.int (52 : Int32)),
  Jvm.Cond.eq (Jvm.Term.elem (Jvm.Term.static "java/lang/Integer" "DigitOnes" "[B") (Jvm.Term.int (25 : Int32))) (Jvm.Term.int (53 : Int32)),
  Jvm.Cond.eq (Jvm.Term.elem (Jvm.Term.static "java/lang/Integer" "DigitOnes" "[B") (Jvm.Term.int (26 : Int32))) (Jvm.Term.int (54 : Int32)),
  Jvm.Cond.eq (Jvm.Term.elem (Jvm.Term.static "java/lang/Integer" "DigitOnes" "[B") (Jvm.Term.int (27 : Int32))) (Jvm.Term.int (55 : Int32)),
  Jvm.Cond.eq (Jvm.Term.elem (Jvm.Term.static "java/lang/Integer" "DigitOnes" "[B") (Jvm.Term.int (28 : Int32))) (Jvm.Term.int (56 : Int32)),
  Jvm.Cond.eq (Jvm.Term.elem (Jvm.Term.static "java/lang/Integer" "DigitOnes" "[B") (Jvm.Term.int (29 : Int32))) (Jvm.Term.int (57 : Int32)),
  Jvm.Cond.eq (Jvm.Term.elem (Jvm.Term.static "java/lang/Integer" "DigitOnes" "[B") (Jvm.Term.int (30 : Int32))) (Jvm.Term.int (48 : Int32)),
  Jvm.Cond.eq (Jvm.Term.elem (Jvm.Term.static "java/lang/Integer" "DigitOnes" "[B") (Jvm.Term.int (31 : Int32))) (Jvm.Term.int (49 : Int32)),
  Jvm.Cond.eq (Jvm.Term.elem (Jvm.Term.static "java/lang/Integer" "DigitOnes" "[B") (Jvm.Term.int (32 : Int32))) (Jvm.Term.int (50 : Int32)),
  Jvm.Cond.eq (Jvm.Term.elem (Jvm.Term.static "java/lang/Integer" "DigitOnes" "[B") (Jvm.Term.int (33 : Int32))) (Jvm.Term.int (51 : Int32)),
  Jvm.Cond.eq (Jvm.Term.elem (Jvm.Term.static "java/lang/Integer" "DigitOnes" "[B") (Jvm.Term.int (34 : Int32))) (Jvm.Term.int (52 : Int32)),
  Jvm.Cond.eq (Jvm.Term.elem (Jvm.Term.static "java/lang/Integer" "DigitOnes" "[B") (Jvm.Term.int (35 : Int32))) (Jvm.Term.int (53 : Int32)),
  Jvm.Cond.eq (Jvm.Term.elem (Jvm.Term.static "java/lang/Integer" "DigitOnes" "[B") (Jvm.Term.int (36 : Int32))) (Jvm.Term.int (54 : Int32)),
  Jvm.Cond.eq (Jvm.Term.elem (Jvm.Term.static "java/lang/Integer" "DigitOnes" "[B") (Jvm.Term.int (37 : Int32))) (Jvm.Term.int (55 : Int32)),
  Jvm.Cond.eq (Jvm.Term.elem (Jvm.Term.static "java/lang/Integer" "DigitOnes" "[B") (Jvm.Term.int (38 : Int32))) (Jvm.Term.int (56 : Int32)),
  Jvm.Cond.eq (Jvm.Term.elem (Jvm.Term.static "java/lang/Integer" "DigitOnes" "[B") (Jvm.Term.int (39 : Int32))) (Jvm.Term.int (57 : Int32)),
  Jvm.Cond.eq (Jvm.Term.elem (Jvm.Term.static "java/lang/Integer" "DigitOnes" "[B") (Jvm.Term.int (40 : Int32))) (Jvm.Term.int (48 : Int32)),
  Jvm.Cond.eq (Jvm.Term.elem (Jvm.Term.static "java/lang/Integer" "DigitOnes" "[B") (Jvm.Term.int (41 : Int32))) (Jvm.Term.int (49 : Int32)),
  Jvm.Cond.eq (Jvm.Term.elem (Jvm.Term.static "java/lang/Integer" "DigitOnes" "[B") (Jvm.Term.int (42 : Int32))) (Jvm.Term.int (50 : Int32)),
  Jvm.Cond.eq (Jvm.Term.elem (Jvm.Term.static "java/lang/Integer" "DigitOnes" "[B") (Jvm.Term.int (43 : Int32))) (Jvm.Term.int (51 : Int32)),
  Jvm.Cond.eq (Jvm.Term.elem (Jvm.Term.static "java/lang/Integer" "DigitOnes" "[B") (Jvm.Term.int (44 : Int32))) (Jvm.Term.int (52 : Int32)),
  Jvm.Cond.eq (Jvm.Term.elem (Jvm.Term.static "java/lang/Integer" "DigitOnes" "[B") (Jvm.Term.int (45 : Int32))) (Jvm.Term.int (53 : Int32)),
  Jvm.Cond.eq (Jvm.Term.elem (Jvm.Term.static "java/lang/Integer" "DigitOnes" "[B") (Jvm.Term.int (46 : Int32))) (Jvm.Term.int (54 : Int32)),
  Jvm.Cond.eq (Jvm.Term.elem (Jvm.Term.static "java/lang/Integer" "DigitOnes" "[B") (Jvm.Term.int (47 : Int32))) (Jvm.Term.int (55 : Int32)),
  Jvm.Cond.eq (Jvm.Term.elem (Jvm.Term.static "java/lang/Integer" "DigitOnes" "[B") (Jvm.Term.int (48 : Int32))) (Jvm.Term.int (56 : Int32)),
  Jvm.Cond.eq (Jvm.Term.elem (Jvm.Term.static "java/lang/Integer" "DigitOnes" "[B") (Jvm.Term.int (49 : Int32))) (Jvm.Term.int (57 : Int32)),
  Jvm.Cond.eq (Jvm.Term.elem (Jvm.Term.static "java/lang/Integer" "DigitOnes" "[B") (Jvm.Term.int (50 : Int32))) (Jvm.Term.int (48 : Int32)),
  Jvm.Cond.eq (Jvm.Term.elem (Jvm.Term.static "java/lang/Integer" "DigitOnes" "[B") (Jvm.Term.int (51 : Int32))) (Jvm.Term.int (49 : Int32)),
  Jvm.Cond.eq (Jvm.Term.elem (Jvm.Term.static "java/lang/Integer" "DigitOnes" "[B") (Jvm.Term.int (52 : Int32))) (Jvm.Term.int (50 : Int32)),
  Jvm.Cond.eq (Jvm.Term.elem (Jvm.Term.static "java/lang/Integer" "DigitOnes" "[B") (Jvm.Term.int (53 : Int32))) (Jvm.Term.int (51 : Int32)),
  Jvm.Cond.eq (Jvm.Term.elem (Jvm.Term.static "java/lang/Integer" "DigitOnes" "[B") (Jvm.Term.int (54 : Int32))) (Jvm.Term.int (52 : Int32)),
  Jvm.Cond.eq (Jvm.Term.elem (Jvm.Term.static "java/lang/Integer" "DigitOnes" "[B") (Jvm.Term.int (55 : Int32))) (Jvm.Term.int (53 : Int32)),
  Jvm.Cond.eq (Jvm.Term.elem (Jvm.Term.static "java/lang/Integer" "DigitOnes" "[B") (Jvm.Term.int (56 : Int32))) (Jvm.Term.int (54 : Int32)),
  Jvm.Cond.eq (Jvm.Term.elem (Jvm.Term.static "java/lang/Integer" "DigitOnes" "[B") (Jvm.Term.int (57 : Int32))) (Jvm.Term.int (55 : Int32)),
  Jvm.Cond.eq (Jvm.Term.elem (Jvm.Term.static "java/lang/Integer" "DigitOnes" "[B") (Jvm.Term.int (58 : Int32))) (Jvm.Term.int (56 : Int32)),
  Jvm.Cond.eq (Jvm.Term.elem (Jvm.Term.static "java/lang/Integer" "DigitOnes" "[B") (Jvm.Term.int (59 : Int32))) (Jvm.Term.int (57 : Int32)),
  Jvm.Cond.eq (Jvm.Term.elem (Jvm.Term.static "java/lang/Integer" "DigitOnes" "[B") (Jvm.Term.int (60 : Int32))) (Jvm.Term.int (48 : Int32)),
  Jvm.Cond.eq (Jvm.Term.elem (Jvm.Term.static "java/lang/Integer" "DigitOnes" "[B") (Jvm.Term.int (61 : Int32))) (Jvm.Term.int (49 : Int32)),
  Jvm.Cond.eq (Jvm.Term.elem (Jvm.Term.static "java/lang/Integer" "DigitOnes" "[B") (Jvm.Term.int (62 : Int32))) (Jvm.Term.int (50 : Int32)),
  Jvm.Cond.eq (Jvm.Term.elem (Jvm.Term.static "java/lang/Integer" "DigitOnes" "[B") (Jvm.Term.int (63 : Int32))) (Jvm.Term.int (51 : Int32)),
  Jvm.Cond.eq (Jvm.Term.elem (Jvm.Term.static "java/lang/Integer" "DigitOnes" "[B") (Jvm.Term.int (64 : Int32))) (Jvm.Term.int (52 : Int32)),
  Jvm.Cond.eq (Jvm.Term.elem (Jvm.Term.static "java/lang/Integer" "DigitOnes" "[B") (Jvm.Term.int (65 : Int32))) (Jvm.Term.int (53 : Int32)),
  Jvm.Cond.eq (Jvm.Term.elem (Jvm.Term.static "java/lang/Integer" "DigitOnes" "[B") (Jvm.Term.int (66 : Int32))) (Jvm.Term.int (54 : Int32)),
  Jvm.Cond.eq (Jvm.Term.elem (Jvm.Term.static "java/lang/Integer" "DigitOnes" "[B") (Jvm.Term.int (67 : Int32))) (Jvm.Term.int (55 : Int32)),
  Jvm.Cond.eq (Jvm.Term.elem (Jvm.Term.static "java/lang/Integer" "DigitOnes" "[B") (Jvm.Term.int (68 : Int32))) (Jvm.Term.int (56 : Int32)),
  Jvm.Cond.eq (Jvm.Term.elem (Jvm.Term.static "java/lang/Integer" "DigitOnes" "[B") (Jvm.Term.int (69 : Int32))) (Jvm.Term.int (57 : Int32)),
  Jvm.Cond.eq (Jvm.Term.elem (Jvm.Term.static "java/lang/Integer" "DigitOnes" "[B") (Jvm.Term.int (70 : Int32))) (Jvm.Term.int (48 : Int32)),
  Jvm.Cond.eq (Jvm.Term.elem (Jvm.Term.static "java/lang/Integer" "DigitOnes" "[B") (Jvm.Term.int (71 : Int32))) (Jvm.Term.int (49 : Int32)),
  Jvm.Cond.eq (Jvm.Term.elem (Jvm.Term.static "java/lang/Integer" "DigitOnes" "[B") (Jvm.Term.int (72 : Int32))) (Jvm.Term.int (50 : Int32)),
  Jvm.Cond.eq (Jvm.Term.elem (Jvm.Term.static "java/lang/Integer" "DigitOnes" "[B") (Jvm.Term.int (73 : Int32))) (Jvm.Term.int (51 : Int32)),
  Jvm.Cond.eq (Jvm.Term.elem (Jvm.Term.static "java/lang/Integer" "DigitOnes" "[B") (Jvm.Term.int (74 : Int32))) (Jvm.Term.int (52 : Int32)),
  Jvm.Cond.eq (Jvm.Term.elem (Jvm.Term.static "java/lang/Integer" "DigitOnes" "[B") (Jvm.Term.int (75 : Int32))) (Jvm.Term.int (53 : Int32)),
  Jvm.Cond.eq (Jvm.Term.elem (Jvm.Term.static "java/lang/Integer" "DigitOnes" "[B") (Jvm.Term.int (76 : Int32))) (Jvm.Term.int (54 : Int32)),
  Jvm.Cond.eq (Jvm.Term.elem (Jvm.Term.static "java/lang/Integer" "DigitOnes" "[B") (Jvm.Term.int (77 : Int32))) (Jvm.Term.int (55 : Int32)),
  Jvm.Cond.eq (Jvm.Term.elem (Jvm.Term.static "java/lang/Integer" "DigitOnes" "[B") (Jvm.Term.int (78 : Int32))) (Jvm.Term.int (56 : Int32)),
  Jvm.Cond.eq (Jvm.Term.elem (Jvm.Term.static "java/lang/Integer" "DigitOnes" "[B") (Jvm.Term.int (79 : Int32))) (Jvm.Term.int (57 : Int32)),
  Jvm.Cond.eq (Jvm.Term.elem (Jvm.Term.static "java/lang/Integer" "DigitOnes" "[B") (Jvm.Term.int (80 : Int32))) (Jvm.Term.int (48 : Int32)),
  Jvm.Cond.eq (Jvm.Term.elem (Jvm.Term.static "java/lang/Integer" "DigitOnes" "[B") (Jvm.Term.int (81 : Int32))) (Jvm.Term.int (49 : Int32)),
  Jvm.Cond.eq (Jvm.Term.elem (Jvm.Term.static "java/lang/Integer" "DigitOnes" "[B") (Jvm.Term.int (82 : Int32))) (Jvm.Term.int (50 : Int32)),
  Jvm.Cond.eq (Jvm.Term.elem (Jvm.Term.static "java/lang/Integer" "DigitOnes" "[B") (Jvm.Term.int (83 : Int32))) (Jvm.Term.int (51 : Int32)),
  Jvm.Cond.eq (Jvm.Term.elem (Jvm.Term.static "java/lang/Integer" "DigitOnes" "[B") (Jvm.Term.int (84 : Int32))) (Jvm.Term.int (52 : Int32)),
  Jvm.Cond.eq (Jvm.Term.elem (Jvm.Term.static "java/lang/Integer" "DigitOnes" "[B") (Jvm.Term.int (85 : Int32))) (Jvm.Term.int (53 : Int32)),
  Jvm.Cond.eq (Jvm.Term.elem (Jvm.Term.static "java/lang/Integer" "DigitOnes" "[B") (Jvm.Term.int (86 : Int32))) (Jvm.Term.int (54 : Int32)),
  Jvm.Cond.eq (Jvm.Term.elem (Jvm.Term.static "java/lang/Integer" "DigitOnes" "[B") (Jvm.Term.int (87 : Int32))) (Jvm.Term.int (55 : Int32)),
  Jvm.Cond.eq (Jvm.Term.elem (Jvm.Term.static "java/lang/Integer" "DigitOnes" "[B") (Jvm.Term.int (88 : Int32))) (Jvm.Term.int (56 : Int32)),
  Jvm.Cond.eq (Jvm.Term.elem (Jvm.Term.static "java/lang/Integer" "DigitOnes" "[B") (Jvm.Term.int (89 : Int32))) (Jvm.Term.int (57 : Int32)),
  Jvm.Cond.eq (Jvm.Term.elem (Jvm.Term.static "java/lang/Integer" "DigitOnes" "[B") (Jvm.Term.int (90 : Int32))) (Jvm.Term.int (48 : Int32)),
  Jvm.Cond.eq (Jvm.Term.elem (Jvm.Term.static "java/lang/Integer" "DigitOnes" "[B") (Jvm.Term.int (91 : Int32))) (Jvm.Term.int (49 : Int32)),
  Jvm.Cond.eq (Jvm.Term.elem (Jvm.Term.static "java/lang/Integer" "DigitOnes" "[B") (Jvm.Term.int (92 : Int32))) (Jvm.Term.int (50 : Int32)),
  Jvm.Cond.eq (Jvm.Term.elem (Jvm.Term.static "java/lang/Integer" "DigitOnes" "[B") (Jvm.Term.int (93 : Int32))) (Jvm.Term.int (51 : Int32)),
  Jvm.Cond.eq (Jvm.Term.elem (Jvm.Term.static "java/lang/Integer" "DigitOnes" "[B") (Jvm.Term.int (94 : Int32))) (Jvm.Term.int (52 : Int32)),
  Jvm.Cond.eq (Jvm.Term.elem (Jvm.Term.static "java/lang/Integer" "DigitOnes" "[B") (Jvm.Term.int (95 : Int32))) (Jvm.Term.int (53 : Int32)),
  Jvm.Cond.eq (Jvm.Term.elem (Jvm.Term.static "java/lang/Integer" "DigitOnes" "[B") (Jvm.Term.int (96 : Int32))) (Jvm.Term.int (54 : Int32)),
  Jvm.Cond.eq (Jvm.Term.elem (Jvm.Term.static "java/lang/Integer" "DigitOnes" "[B") (Jvm.Term.int (97 : Int32))) (Jvm.Term.int (55 : Int32)),
  Jvm.Cond.eq (Jvm.Term.elem (Jvm.Term.static "java/lang/Integer" "DigitOnes" "[B") (Jvm.Term.int (98 : Int32))) (Jvm.Term.int (56 : Int32)),
  Jvm.Cond.eq (Jvm.Term.elem (Jvm.Term.static "java/lang/Integer" "DigitOnes" "[B") (Jvm.Term.int (99 : Int32))) (Jvm.Term.int (57 : Int32)),
  Jvm.Cond.isRef (Jvm.Term.static "java/lang/Integer" "DigitTens" "[B"),
  Jvm.Cond.arrayOf (Jvm.Term.static "java/lang/Integer" "DigitTens" "[B") Jvm.ClassFile.FieldType.byte,
  Jvm.Cond.eq (Jvm.Term.length (Jvm.Term.static "java/lang/Integer" "DigitTens" "[B")) (Jvm.Term.int (100 : Int32)),
  Jvm.Cond.eq (Jvm.Term.elem (Jvm.Term.static "java/lang/Integer" "DigitTens" "[B") (Jvm.Term.int (0 : Int32))) (Jvm.Term.int (48 : Int32)),
  Jvm.Cond.eq (Jvm.Term.elem (Jvm.Term.static "java/lang/Integer" "DigitTens" "[B") (Jvm.Term.int (1 : Int32))) (Jvm.Term.int (48 : Int32)),
  Jvm.Cond.eq (Jvm.Term.elem (Jvm.Term.static "java/lang/Integer" "DigitTens" "[B") (Jvm.Term.int (2 : Int32))) (Jvm.Term.int (48 : Int32)),
  Jvm.Cond.eq (Jvm.Term.elem (Jvm.Term.static "java/lang/Integer" "DigitTens" "[B") (Jvm.Term.int (3 : Int32))) (Jvm.Term.int (48 : Int32)),
  Jvm.Cond.eq (Jvm.Term.elem (Jvm.Term.static "java/lang/Integer" "DigitTens" "[B") (Jvm.Term.int (4 : Int32))) (Jvm.Term.int (48 : Int32)),
  Jvm.Cond.eq (Jvm.Term.elem (Jvm.Term.static "java/lang/Integer" "DigitTens" "[B") (Jvm.Term.int (5 : Int32))) (Jvm.Term.int (48 : Int32)),
  Jvm.Cond.eq (Jvm.Term.elem (Jvm.Term.static "java/lang/Integer" "DigitTens" "[B") (Jvm.Term.int (6 : Int32))) (Jvm.Term.int (48 : Int32)),
  Jvm.Cond.eq (Jvm.Term.elem (Jvm.Term.static "java/lang/Integer" "DigitTens" "[B") (Jvm.Term.int (7 : Int32))) (Jvm.Term.int (48 : Int32)),
  Jvm.Cond.eq (Jvm.Term.elem (Jvm.Term.static "java/lang/Integer" "DigitTens" "[B") (Jvm.Term.int (8 : Int32))) (Jvm.Term.int (48 : Int32)),
  Jvm.Cond.eq (Jvm.Term.elem (Jvm.Term.static "java/lang/Integer" "DigitTens" "[B") (Jvm.Term.int (9 : Int32))) (Jvm.Term.int (48 : Int32)),
  Jvm.Cond.eq (Jvm.Term.elem (Jvm.Term.static "java/lang/Integer" "DigitTens" "[B") (Jvm.Term.int (10 : Int32))) (Jvm.Term.int (49 : Int32)),
  Jvm.Cond.eq (Jvm.Term.elem (Jvm.Term.static "java/lang/Integer" "DigitTens" "[B") (Jvm.Term.int (11 : Int32))) (Jvm.Term.int (49 : Int32)),
  Jvm.Cond.eq (Jvm.Term.elem (Jvm.Term.static "java/lang/Integer" "DigitTens" "[B") (Jvm.Term.int (12 : Int32))) (Jvm.Term.int (49 : Int32)),
  Jvm.Cond.eq (Jvm.Term.elem (Jvm.Term.static "java/lang/Integer" "DigitTens" "[B") (Jvm.Term.int (13 : Int32))) (Jvm.Term.int (49 : Int32)),
  Jvm.Cond.eq (Jvm.Term.elem (Jvm.Term.static "java/lang/Integer" "DigitTens" "[B") (Jvm.Term.int (14 : Int32))) (Jvm.Term.int (49 : Int32)),
  Jvm.Cond.eq (Jvm.Term.elem (Jvm.Term.static "java/lang/Integer" "DigitTens" "[B") (Jvm.Term.int (15 : Int32))) (Jvm.Term.int (49 : Int32)),
  Jvm.Cond.eq (Jvm.Term.elem (Jvm.Term.static "java/lang/Integer" "DigitTens" "[B") (Jvm.Term.int (16 : Int32))) (Jvm.Term.int (49 : Int32)),
  Jvm.Cond.eq (Jvm.Term.elem (Jvm.Term.static "java/lang/Integer" "DigitTens" "[B") (Jvm.Term.int (17 : Int32))) (Jvm.Term.int (49 : Int32)),
  Jvm.Cond.eq (Jvm.Term.elem (Jvm.Term.static "java/lang/Integer" "DigitTens" "[B") (Jvm.Term.int (18 : Int32))) (Jvm.Term.int (49 : Int32)),
  Jvm.Cond.eq (Jvm.Term.elem (Jvm.Term.static "java/lang/Integer" "DigitTens" "[B") (Jvm.Term.int (19 : Int32))) (Jvm.Term.int (49 : Int32)),
  Jvm.Cond.eq (Jvm.Term.elem (Jvm.Term.static "java/lang/Integer" "DigitTens" "[B") (Jvm.Term.int (20 : Int32))) (Jvm.Term.int (50 : Int32)),
  Jvm.Cond.eq (Jvm.Term.elem (Jvm.Term.static "java/lang/Integer" "DigitTens" "[B") (Jvm.Term.int (21 : Int32))) (Jvm.Term.int (50 : Int32)),
  Jvm.Cond.eq (Jvm.Term.elem (Jvm.Term.static "java/lang/Integer" "DigitTens" "[B") (Jvm.Term.int (22 : Int32))) (Jvm.Term.int (50 : Int32)),
  Jvm.Cond.eq (Jvm.Term.elem (Jvm.Term.static "java/lang/Integer" "DigitTens" "[B") (Jvm.Term.int (23 : Int32))) (Jvm.Term.int (50 : Int32)),
  Jvm.Cond.eq (Jvm.Term.elem (Jvm.Term.static "java/lang/Integer" "DigitTens" "[B") (Jvm.Term.int (24 : Int32))) (Jvm.Term.int (50 : Int32)),
  Jvm.Cond.eq (Jvm.Term.elem (Jvm.Term.static "java/lang/Integer" "DigitTens" "[B") (Jvm.Term.int (25 : Int32))) (Jvm.Term.int (50 : Int32)),
  Jvm.Cond.eq (Jvm.Term.elem (Jvm.Term.static "java/lang/Integer" "DigitTens" "[B") (Jvm.Term.int (26 : Int32))) (Jvm.Term.int (50 : Int32)),
  Jvm.Cond.eq (Jvm.Term.elem (Jvm.Term.static "java/lang/Integer" "DigitTens" "[B") (Jvm.Term.int (27 : Int32))) (Jvm.Term.int (50 : Int32)),
  Jvm.Cond.eq (Jvm.Term.elem (Jvm.Term.static "java/lang/Integer" "DigitTens" "[B") (Jvm.Term.int (28 : Int32))) (Jvm.Term.int (50 : Int32)),
  Jvm.Cond.eq (Jvm.Term.elem (Jvm.Term.static "java/lang/Integer" "DigitTens" "[B") (Jvm.Term.int (29 : Int32))) (Jvm.Term.int (50 : Int32)),
  Jvm.Cond.eq (Jvm.Term.elem (Jvm.Term.static "java/lang/Integer" "DigitTens" "[B") (Jvm.Term.int (30 : Int32))) (Jvm.Term.int (51 : Int32)),
  Jvm.Cond.eq (Jvm.Term.elem (Jvm.Term.static "java/lang/Integer" "DigitTens" "[B") (Jvm.Term.int (31 : Int32))) (Jvm.Term.int (51 : Int32)),
  Jvm.Cond.eq (Jvm.Term.elem (Jvm.Term.static "java/lang/Integer" "DigitTens" "[B") (Jvm.Term.int (32 : Int32))) (Jvm.Term.int (51 : Int32)),
  Jvm.Cond.eq (Jvm.Term.elem (Jvm.Term.static "java/lang/Integer" "DigitTens" "[B") (Jvm.Term.int (33 : Int32))) (Jvm.Term.int (51 : Int32)),
  Jvm.Cond.eq (Jvm.Term.elem (Jvm.Term.static "java/lang/Integer" "DigitTens" "[B") (Jvm.Term.int (34 : Int32))) (Jvm.Term.int (51 : Int32)),
  Jvm.Cond.eq (Jvm.Term.elem (Jvm.Term.static "java/lang/Integer" "DigitTens" "[B") (Jvm.Term.int (35 : Int32))) (Jvm.Term.int (51 : Int32)),
  Jvm.Cond.eq (Jvm.Term.elem (Jvm.Term.static "java/lang/Integer" "DigitTens" "[B") (Jvm.Term.int (36 : Int32))) (Jvm.Term.int (51 : Int32)),
  Jvm.Cond.eq (Jvm.Term.elem (Jvm.Term.static "java/lang/Integer" "DigitTens" "[B") (Jvm.Term.int (37 : Int32))) (Jvm.Term.int (51 : Int32)),
  Jvm.Cond.eq (Jvm.Term.elem (Jvm.Term.static "java/lang/Integer" "DigitTens" "[B") (Jvm.Term.int (38 : Int32))) (Jvm.Term.int (51 : Int32)),
  Jvm.Cond.eq (Jvm.Term.elem (Jvm.Term.static "java/lang/Integer" "DigitTens" "[B") (Jvm.Term.int (39 : Int32))) (Jvm.Term.int (51 : Int32)),
  Jvm.Cond.eq (Jvm.Term.elem (Jvm.Term.static "java/lang/Integer" "DigitTens" "[B") (Jvm.Term.int (40 : Int32))) (Jvm.Term.int (52 : Int32)),
  Jvm.Cond.eq (Jvm.Term.elem (Jvm.Term.static "java/lang/Integer" "DigitTens" "[B") (Jvm.Term.int (41 : Int32))) (Jvm.Term.int (52 : Int32)),
  Jvm.Cond.eq (Jvm.Term.elem (Jvm.Term.static "java/lang/Integer" "DigitTens" "[B") (Jvm.Term.int (42 : Int32))) (Jvm.Term.int (52 : Int32)),
  Jvm.Cond.eq (Jvm.Term.elem (Jvm.Term.static "java/lang/Integer" "DigitTens" "[B") (Jvm.Term.int (43 : Int32))) (Jvm.Term.int (52 : Int32)),
  Jvm.Cond.eq (Jvm.Term.elem (Jvm.Term.static "java/lang/Integer" "DigitTens" "[B") (Jvm.Term.int (44 : Int32))) (Jvm.Term.int (52 : Int32)),
  Jvm.Cond.eq (Jvm.Term.elem (Jvm.Term.static "java/lang/Integer" "DigitTens" "[B") (Jvm.Term.int (45 : Int32))) (Jvm.Term.int (52 : Int32)),
  Jvm.Cond.eq (Jvm.Term.elem (Jvm.Term.static "java/lang/Integer" "DigitTens" "[B") (Jvm.Term.int (46 : Int32))) (Jvm.Term.int (52 : Int32)),
  Jvm.Cond.eq (Jvm.Term.elem (Jvm.Term.static "java/lang/Integer" "DigitTens" "[B") (Jvm.Term.int (47 : Int32))) (Jvm.Term.int (52 : Int32)),
  Jvm.Cond.eq (Jvm.Term.elem (Jvm.Term.static "java/lang/Integer" "DigitTens" "[B") (Jvm.Term.int (48 : Int32))) (Jvm.Term.int (52 : Int32)),
  Jvm.Cond.eq (Jvm.Term.elem (Jvm.Term.static "java/lang/Integer" "DigitTens" "[B") (Jvm.Term.int (49 : Int32))) (Jvm.Term.int (52 : Int32)),
  Jvm.Cond.eq (Jvm.Term.elem (Jvm.Term.static "java/lang/Integer" "DigitTens" "[B") (Jvm.Term.int (50 : Int32))) (Jvm.Term.int (53 : Int32)),
  Jvm.Cond.eq (Jvm.Term.elem (Jvm.Term.static "java/lang/Integer" "DigitTens" "[B") (Jvm.Term.int (51 : Int32))) (Jvm.Term.int (53 : Int32)),
  Jvm.Cond.eq (Jvm.Term.elem (Jvm.Term.static "java/lang/Integer" "DigitTens" "[B") (Jvm.Term.int (52 : Int32))) (Jvm.Term.int (53 : Int32)),
  Jvm.Cond.eq (Jvm.Term.elem (Jvm.Term.static "java/lang/Integer" "DigitTens" "[B") (Jvm.Term.int (53 : Int32))) (Jvm.Term.int (53 : Int32)),
  Jvm.Cond.eq (Jvm.Term.elem (Jvm.Term.static "java/lang/Integer" "DigitTens" "[B") (Jvm.Term.int (54 : Int32))) (Jvm.Term.int (53 : Int32)),
  Jvm.Cond.eq (Jvm.Term.elem (Jvm.Term.static "java/lang/Integer" "DigitTens" "[B") (Jvm.Term.int (55 : Int32))) (Jvm.Term.int (53 : Int32)),
  Jvm.Cond.eq (Jvm.Term.elem (Jvm.Term.static "java/lang/Integer" "DigitTens" "[B") (Jvm.Term.int (56 : Int32))) (Jvm.Term.int (53 : Int32)),
  Jvm.Cond.eq (Jvm.Term.elem (Jvm.Term.static "java/lang/Integer" "DigitTens" "[B") (Jvm.Term.int (57 : Int32))) (Jvm.Term.int (53 : Int32)),
  Jvm.Cond.eq (Jvm.Term.elem (Jvm.Term.static "java/lang/Integer" "DigitTens" "[B") (Jvm.Term.int (58 : Int32))) (Jvm.Term.int (53 : Int32)),
  Jvm.Cond.eq (Jvm.Term.elem (Jvm.Term.static "java/lang/Integer" "DigitTens" "[B") (Jvm.Term.int (59 : Int32))) (Jvm.Term.int (53 : Int32)),
  Jvm.Cond.eq (Jvm.Term.elem (Jvm.Term.static "java/lang/Integer" "DigitTens" "[B") (Jvm.Term.int (60 : Int32))) (Jvm.Term.int (54 : Int32)),
  Jvm.Cond.eq (Jvm.Term.elem (Jvm.Term.static "java/lang/Integer" "DigitTens" "[B") (Jvm.Term.int (61 : Int32))) (Jvm.Term.int (54 : Int32)),
  Jvm.Cond.eq (Jvm.Term.elem (Jvm.Term.static "java/lang/Integer" "DigitTens" "[B") (Jvm.Term.int (62 : Int32))) (Jvm.Term.int (54 : Int32)),
  Jvm.Cond.eq (Jvm.Term.elem (Jvm.Term.static "java/lang/Integer" "DigitTens" "[B") (Jvm.Term.int (63 : Int32))) (Jvm.Term.int (54 : Int32)),
  Jvm.Cond.eq (Jvm.Term.elem (Jvm.Term.static "java/lang/Integer" "DigitTens" "[B") (Jvm.Term.int (64 : Int32))) (Jvm.Term.int (54 : Int32)),
  Jvm.Cond.eq (Jvm.Term.elem (Jvm.Term.static "java/lang/Integer" "DigitTens" "[B") (Jvm.Term.int (65 : Int32))) (Jvm.Term.int (54 : Int32)),
  Jvm.Cond.eq (Jvm.Term.elem (Jvm.Term.static "java/lang/Integer" "DigitTens" "[B") (Jvm.Term.int (66 : Int32))) (Jvm.Term.int (54 : Int32)),
  Jvm.Cond.eq (Jvm.Term.elem (Jvm.Term.static "java/lang/Integer" "DigitTens" "[B") (Jvm.Term.int (67 : Int32))) (Jvm.Term.int (54 : Int32)),
  Jvm.Cond.eq (Jvm.Term.elem (Jvm.Term.static "java/lang/Integer" "DigitTens" "[B") (Jvm.Term.int (68 : Int32))) (Jvm.Term.int (54 : Int32)),
  Jvm.Cond.eq (Jvm.Term.elem (Jvm.Term.static "java/lang/Integer" "DigitTens" "[B") (Jvm.Term.int (69 : Int32))) (Jvm.Term.int (54 : Int32)),
  Jvm.Cond.eq (Jvm.Term.elem (Jvm.Term.static "java/lang/Integer" "DigitTens" "[B") (Jvm.Term.int (70 : Int32))) (Jvm.Term.int (55 : Int32)),
  Jvm.Cond.eq (Jvm.Term.elem (Jvm.Term.static "java/lang/Integer" "DigitTens" "[B") (Jvm.Term.int (71 : Int32))) (Jvm.Term.int (55 : Int32)),
  Jvm.Cond.eq (Jvm.Term.elem (Jvm.Term.static "java/lang/Integer" "DigitTens" "[B") (Jvm.Term.int (72 : Int32))) (Jvm.Term.int (55 : Int32)),
  Jvm.Cond.eq (Jvm.Term.elem (Jvm.Term.static "java/lang/Integer" "DigitTens" "[B") (Jvm.Term.int (73 : Int32))) (Jvm.Term.int (55 : Int32)),
  Jvm.Cond.eq (Jvm.Term.elem (Jvm.Term.static "java/lang/Integer" "DigitTens" "[B") (Jvm.Term.int (74 : Int32))) (Jvm.Term.int (55 : Int32)),
  Jvm.Cond.eq (Jvm.Term.elem (Jvm.Term.static "java/lang/Integer" "DigitTens" "[B") (Jvm.Term.int (75 : Int32))) (Jvm.Term.int (55 : Int32)),
  Jvm.Cond.eq (Jvm.Term.elem (Jvm.Term.static "java/lang/Integer" "DigitTens" "[B") (Jvm.Term.int (76 : Int32))) (Jvm.Term.int (55 : Int32)),
  Jvm.Cond.eq (Jvm.Term.elem (Jvm.Term.static "java/lang/Integer" "DigitTens" "[B") (Jvm.Term.int (77 : Int32))) (Jvm.Term.int (55 : Int32)),
  Jvm.Cond.eq (Jvm.Term.elem (Jvm.Term.static "java/lang/Integer" "DigitTens" "[B") (Jvm.Term.int (78 : Int32))) (Jvm.Term.int (55 : Int32)),
  Jvm.Cond.eq (Jvm.Term.elem (Jvm.Term.static "java/lang/Integer" "DigitTens" "[B") (Jvm.Term.int (79 : Int32))) (Jvm.Term.int (55 : Int32)),
  Jvm.Cond.eq (Jvm.Term.elem (Jvm.Term.static "java/lang/Integer" "DigitTens" "[B") (Jvm.Term.int (80 : Int32))) (Jvm.Term.int (56 : Int32)),
  Jvm.Cond.eq (Jvm.Term.elem (Jvm.Term.static "java/lang/Integer" "DigitTens" "[B") (Jvm.Term.int (81 : Int32))) (Jvm.Term.int (56 : Int32)),
  Jvm.Cond.eq (Jvm.Term.elem (Jvm.Term.static "java/lang/Integer" "DigitTens" "[B") (Jvm.Term.int (82 : Int32))) (Jvm.Term.int (56 : Int32)),
  Jvm.Cond.eq (Jvm.Term.elem (Jvm.Term.static "java/lang/Integer" "DigitTens" "[B") (Jvm.Term.int (83 : Int32))) (Jvm.Term.int (56 : Int32)),
  Jvm.Cond.eq (Jvm.Term.elem (Jvm.Term.static "java/lang/Integer" "DigitTens" "[B") (Jvm.Term.int (84 : Int32))) (Jvm.Term.int (56 : Int32)),
  Jvm.Cond.eq (Jvm.Term.elem (Jvm.Term.static "java/lang/Integer" "DigitTens" "[B") (Jvm.Term.int (85 : Int32))) (Jvm.Term.int (56 : Int32)),
  Jvm.Cond.eq (Jvm.Term.elem (Jvm.Term.static "java/lang/Integer" "DigitTens" "[B") (Jvm.Term.int (86 : Int32))) (Jvm.Term.int (56 : Int32)),
  Jvm.Cond.eq (Jvm.Term.elem (Jvm.Term.static "java/lang/Integer" "DigitTens" "[B") (Jvm.Term.int (87 : Int32))) (Jvm.Term.int (56 : Int32)),
  Jvm.Cond.eq (Jvm.Term.elem (Jvm.Term.static "java/lang/Integer" "DigitTens" "[B") (Jvm.Term.int (88 : Int32))) (Jvm.Term.int (56 : Int32)),
  Jvm.Cond.eq (Jvm.Term.elem (Jvm.Term.static "java/lang/Integer" "DigitTens" "[B") (Jvm.Term.int (89 : Int32))) (Jvm.Term.int (56 : Int32)),
  Jvm.Cond.eq (Jvm.Term.elem (Jvm.Term.static "java/lang/Integer" "DigitTens" "[B") (Jvm.Term.int (90 : Int32))) (Jvm.Term.int (57 : Int32)),
  Jvm.Cond.eq (Jvm.Term.elem (Jvm.Term.static "java/lang/Integer" "DigitTens" "[B") (Jvm.Term.int (91 : Int32))) (Jvm.Term.int (57 : Int32)),
  Jvm.Cond.eq (Jvm.Term.elem (Jvm.Term.static "java/lang/Integer" "DigitTens" "[B") (Jvm.Term.int (92 : Int32))) (Jvm.Term.int (57 : Int32)),
  Jvm.Cond.eq (Jvm.Term.elem (Jvm.Term.static "java/lang/Integer" "DigitTens" "[B") (Jvm.Term.int (93 : Int32))) (Jvm.Term.int (57 : Int32)),
  Jvm.Cond.eq (Jvm.Term.elem (Jvm.Term.static "java/lang/Integer" "DigitTens" "[B") (Jvm.Term.int (94 : Int32))) (Jvm.Term.int (57 : Int32)),
  Jvm.Cond.eq (Jvm.Term.elem (Jvm.Term.static "java/lang/Integer" "DigitTens" "[B") (Jvm.Term.int (95 : Int32))) (Jvm.Term.int (57 : Int32)),
  Jvm.Cond.eq (Jvm.Term.elem (Jvm.Term.static "java/lang/Integer" "DigitTens" "[B") (Jvm.Term.int (96 : Int32))) (Jvm.Term.int (57 : Int32)),
  Jvm.Cond.eq (Jvm.Term.elem (Jvm.Term.static "java/lang/Integer" "DigitTens" "[B") (Jvm.Term.int (97 : Int32))) (Jvm.Term.int (57 : Int32)),
  Jvm.Cond.eq (Jvm.Term.elem (Jvm.Term.static "java/lang/Integer" "DigitTens" "[B") (Jvm.Term.int (98 : Int32))) (Jvm.Term.int (57 : Int32)),
  Jvm.Cond.eq (Jvm.Term.elem (Jvm.Term.static "java/lang/Integer" "DigitTens" "[B") (Jvm.Term.int (99 : Int32))) (Jvm.Term.int (57 : Int32)),
  Jvm.Cond.isRef (Jvm.Term.static "java/lang/Throwable" "UNASSIGNED_STACK" "[Ljava/lang/StackTraceElement;"),
  Jvm.Cond.isRef (Jvm.Term.static "java/lang/Throwable" "SUPPRESSED_SENTINEL" "Ljava/util/List;"),
  Jvm.Cond.not (Jvm.Cond.castable "QuarterWalks" "java/util/NoSuchElementException"),
  Jvm.Cond.not (Jvm.Cond.castable "QuarterWalks$Tape" "java/util/NoSuchElementException"),
  Jvm.Cond.not (Jvm.Cond.castable "QuarterWalks$Book" "java/util/NoSuchElementException"),
  Jvm.Cond.not (Jvm.Cond.castable "QuarterWalks$Shelf" "java/util/NoSuchElementException"),
  Jvm.Cond.not (Jvm.Cond.castable "QuarterWalks$Grid" "java/util/NoSuchElementException"),
  Jvm.Cond.not (Jvm.Cond.castable "QuarterWalks$Box" "java/util/NoSuchElementException"),
  Jvm.Cond.not (Jvm.Cond.castable "QuarterWalks$Ways" "java/util/NoSuchElementException"),
  Jvm.Cond.not (Jvm.Cond.castable "QuarterWalks$Turns" "java/util/NoSuchElementException"),
  Jvm.Cond.not (Jvm.Cond.castable "QuarterWalks$Matrix" "java/util/NoSuchElementException"),
  Jvm.Cond.not (Jvm.Cond.castable "QuarterWalks$Guess" "java/util/NoSuchElementException"),
  Jvm.Cond.not (Jvm.Cond.castable "java/lang/StringBuilder" "java/util/NoSuchElementException"),
  Jvm.Cond.not (Jvm.Cond.castable "QuarterWalksModel" "java/util/NoSuchElementException"),
  Jvm.Cond.not (Jvm.Cond.castable "QuarterWalks$StepSet" "java/util/NoSuchElementException"),
  Jvm.Cond.not (Jvm.Cond.castable "QuarterWalks" "QuarterWalks$StepSet"),
  Jvm.Cond.not (Jvm.Cond.castable "QuarterWalks$Tape" "QuarterWalks$StepSet"),
  Jvm.Cond.not (Jvm.Cond.castable "QuarterWalks$Book" "QuarterWalks$StepSet"),
  Jvm.Cond.not (Jvm.Cond.castable "QuarterWalks$Shelf" "QuarterWalks$StepSet"),
  Jvm.Cond.not (Jvm.Cond.castable "QuarterWalks$Grid" "QuarterWalks$StepSet"),
  Jvm.Cond.not (Jvm.Cond.castable "QuarterWalks$Box" "QuarterWalks$StepSet"),
  Jvm.Cond.not (Jvm.Cond.castable "QuarterWalks$Ways" "QuarterWalks$StepSet"),
  Jvm.Cond.not (Jvm.Cond.castable "QuarterWalks$Turns" "QuarterWalks$StepSet"),
  Jvm.Cond.not (Jvm.Cond.castable "QuarterWalks$Matrix" "QuarterWalks$StepSet"),
  Jvm.Cond.not (Jvm.Cond.castable "QuarterWalks$Guess" "QuarterWalks$StepSet"),
  Jvm.Cond.not (Jvm.Cond.castable "java/lang/StringBuilder" "QuarterWalks$StepSet"),
  Jvm.Cond.not (Jvm.Cond.castable "QuarterWalksModel" "QuarterWalks$StepSet"),
  Jvm.Cond.not (Jvm.Cond.castable "java/util/NoSuchElementException" "QuarterWalks$StepSet"),
  Jvm.Cond.not (Jvm.Cond.castable "java/lang/Throwable" "QuarterWalks$StepSet"),
  Jvm.Cond.not (Jvm.Cond.castable "java/lang/String" "QuarterWalks$StepSet"),
  Jvm.Cond.not (Jvm.Cond.castable "QuarterWalks" "QuarterWalks$Shelf"),
  Jvm.Cond.not (Jvm.Cond.castable "QuarterWalks$Tape" "QuarterWalks$Shelf"),
  Jvm.Cond.not (Jvm.Cond.castable "QuarterWalks$Book" "QuarterWalks$Shelf"),
  Jvm.Cond.not (Jvm.Cond.castable "QuarterWalks$Grid" "QuarterWalks$Shelf"),
  Jvm.Cond.not (Jvm.Cond.castable "QuarterWalks$Box" "QuarterWalks$Shelf"),
  Jvm.Cond.not (Jvm.Cond.castable "QuarterWalks$Ways" "QuarterWalks$Shelf"),
  Jvm.Cond.not (Jvm.Cond.castable "QuarterWalks$Turns" "QuarterWalks$Shelf"),
  Jvm.Cond.not (Jvm.Cond.castable "QuarterWalks$Matrix" "QuarterWalks$Shelf"),
  Jvm.Cond.not (Jvm.Cond.castable "QuarterWalks$Guess" "QuarterWalks$Shelf"),
  Jvm.Cond.not (Jvm.Cond.castable "java/lang/StringBuilder" "QuarterWalks$Shelf"),
  Jvm.Cond.not (Jvm.Cond.castable "QuarterWalksModel" "QuarterWalks$Shelf"),
  Jvm.Cond.not (Jvm.Cond.castable "QuarterWalks$StepSet" "QuarterWalks$Shelf"),
  Jvm.Cond.not (Jvm.Cond.castable "java/util/NoSuchElementException" "QuarterWalks$Shelf"),
  Jvm.Cond.not (Jvm.Cond.castable "java/lang/Throwable" "QuarterWalks$Shelf"),
  Jvm.Cond.not (Jvm.Cond.castable "java/lang/String" "QuarterWalks$Shelf"),
  Jvm.Cond.exactly (Jvm.Term.string "QuarterWalks$Tape" (82 : Nat)) "java/lang/String",
  Jvm.Cond.eq (Jvm.Term.field (Jvm.Term.string "QuarterWalks$Tape" (82 : Nat)) "java/lang/String" "coder" "B") (Jvm.Term.int (0 : Int32)),
  Jvm.Cond.arrayOf (Jvm.Term.field (Jvm.Term.string "QuarterWalks$Tape" (82 : Nat)) "java/lang/String" "value" "[B") Jvm.ClassFile.FieldType.byte,
  Jvm.Cond.eq (Jvm.Term.length (Jvm.Term.field (Jvm.Term.string "QuarterWalks$Tape" (82 : Nat)) "java/lang/String" "value" "[B")) (Jvm.Term.int (16 : Int32)),
  Jvm.Cond.eq (Jvm.Term.elem (Jvm.Term.field (Jvm.Term.string "QuarterWalks$Tape" (82 : Nat)) "java/lang/String" "value" "[B") (Jvm.Term.int (0 : Int32))) (Jvm.Term.int (110 : Int32)),
  Jvm.Cond.eq (Jvm.Term.elem (Jvm.Term.field (Jvm.Term.string "QuarterWalks$Tape" (82 : Nat)) "java/lang/String" "value" "[B") (Jvm.Term.int (1 : Int32))) (Jvm.Term.int (32 : Int32)),
  Jvm.Cond.eq (Jvm.Term.elem (Jvm.Term.field (Jvm.Term.string "QuarterWalks$Tape" (82 : Nat)) "java/lang/String" "value" "[B") (Jvm.Term.int (2 : Int32))) (Jvm.Term.int (110 : Int32)),
  Jvm.Cond.eq (Jvm.Term.elem (Jvm.Term.field (Jvm.Term.string "QuarterWalks$Tape" (82 : Nat)) "java/lang/String" "value" "[B") (Jvm.Term.int (3 : Int32))) (Jvm.Term.int (101 : Int32)),
  Jvm.Cond.eq (Jvm.Term.elem (Jvm.Term.field (Jvm.Term.string "QuarterWalks$Tape" (82 : Nat)) "java/lang/String" "value" "[B") (Jvm.Term.int (4 : Int32))) (Jvm.Term.int (101 : Int32)),
  Jvm.Cond.eq (Jvm.Term.elem (Jvm.Term.field (Jvm.Term.string "QuarterWalks$Tape" (82 : Nat)) "java/lang/String" "value" "[B") (Jvm.Term.int (5 : Int32))) (Jvm.Term.int (32 : Int32)),
  Jvm.Cond.eq (Jvm.Term.elem (Jvm.Term.field (Jvm.Term.string "QuarterWalks$Tape" (82 : Nat)) "java/lang/String" "value" "[B") (Jvm.Term.int (6 : Int32))) (Jvm.Term.int (115 : Int32)),
  Jvm.Cond.eq (Jvm.Term.elem (Jvm.Term.field (Jvm.Term.string "QuarterWalks$Tape" (82 : Nat)) "java/lang/String" "value" "[B") (Jvm.Term.int (7 : Int32))) (Jvm.Term.int (101 : Int32)),
  Jvm.Cond.eq (Jvm.Term.elem (Jvm.Term.field (Jvm.Term.string "QuarterWalks$Tape" (82 : Nat)) "java/lang/String" "value" "[B") (Jvm.Term.int (8 : Int32))) (Jvm.Term.int (115 : Int32)),
  Jvm.Cond.eq (Jvm.Term.elem (Jvm.Term.field (Jvm.Term.string "QuarterWalks$Tape" (82 : Nat)) "java/lang/String" "value" "[B") (Jvm.Term.int (9 : Int32))) (Jvm.Term.int (32 : Int32)),
  Jvm.Cond.eq (Jvm.Term.elem (Jvm.Term.field (Jvm.Term.string "QuarterWalks$Tape" (82 : Nat)) "java/lang/String" "value" "[B") (Jvm.Term.int (10 : Int32))) (Jvm.Term.int (115 : Int32)),
  Jvm.Cond.eq (Jvm.Term.elem (Jvm.Term.field (Jvm.Term.string "QuarterWalks$Tape" (82 : Nat)) "java/lang/String" "value" "[B") (Jvm.Term.int (11 : Int32))) (Jvm.Term.int (119 : Int32)),
  Jvm.Cond.eq (Jvm.Term.elem (Jvm.Term.field (Jvm.Term.string "QuarterWalks$Tape" (82 : Nat)) "java/lang/String" "value" "[B") (Jvm.Term.int (12 : Int32))) (Jvm.Term.int (119 : Int32)),
  Jvm.Cond.eq (Jvm.Term.elem (Jvm.Term.field (Jvm.Term.string "QuarterWalks$Tape" (82 : Nat)) "java/lang/String" "value" "[B") (Jvm.Term.int (13 : Int32))) (Jvm.Term.int (32 : Int32)),
  Jvm.Cond.eq (Jvm.Term.elem (Jvm.Term.field (Jvm.Term.string "QuarterWalks$Tape" (82 : Nat)) "java/lang/String" "value" "[B") (Jvm.Term.int (14 : Int32))) (Jvm.Term.int (110 : Int32)),
  Jvm.Cond.eq (Jvm.Term.elem (Jvm.Term.field (Jvm.Term.string "QuarterWalks$Tape" (82 : Nat)) "java/lang/String" "value" "[B") (Jvm.Term.int (15 : Int32))) (Jvm.Term.int (119 : Int32)),
  Jvm.Cond.exactly (Jvm.Term.string "QuarterWalks$StepSet" (50 : Nat)) "java/lang/String",
  Jvm.Cond.eq (Jvm.Term.field (Jvm.Term.string "QuarterWalks$StepSet" (50 : Nat)) "java/lang/String" "coder" "B") (Jvm.Term.int (0 : Int32)),
  Jvm.Cond.arrayOf (Jvm.Term.field (Jvm.Term.string "QuarterWalks$StepSet" (50 : Nat)) "java/lang/String" "value" "[B") Jvm.ClassFile.FieldType.byte,
  Jvm.Cond.eq (Jvm.Term.length (Jvm.Term.field (Jvm.Term.string "QuarterWalks$StepSet" (50 : Nat)) "java/lang/String" "value" "[B")) (Jvm.Term.int (16 : Int32)),
  Jvm.Cond.eq (Jvm.Term.elem (Jvm.Term.field (Jvm.Term.string "QuarterWalks$StepSet" (50 : Nat)) "java/lang/String" "value" "[B") (Jvm.Term.int (0 : Int32))) (Jvm.Term.int (110 : Int32)),
  Jvm.Cond.eq (Jvm.Term.elem (Jvm.Term.field (Jvm.Term.string "QuarterWalks$StepSet" (50 : Nat)) "java/lang/String" "value" "[B") (Jvm.Term.int (1 : Int32))) (Jvm.Term.int (32 : Int32)),
  Jvm.Cond.eq (Jvm.Term.elem (Jvm.Term.field (Jvm.Term.string "QuarterWalks$StepSet" (50 : Nat)) "java/lang/String" "value" "[B") (Jvm.Term.int (2 : Int32))) (Jvm.Term.int (110 : Int32)),
  Jvm.Cond.eq (Jvm.Term.elem (Jvm.Term.field (Jvm.Term.string "QuarterWalks$StepSet" (50 : Nat)) "java/lang/String" "value" "[B") (Jvm.Term.int (3 : Int32))) (Jvm.Term.int (101 : Int32)),
  Jvm.Cond.eq (Jvm.Term.elem (Jvm.Term.field (Jvm.Term.string "QuarterWalks$StepSet" (50 : Nat)) "java/lang/String" "value" "[B") (Jvm.Term.int (4 : Int32))) (Jvm.Term.int (101 : Int32)),
  Jvm.Cond.eq (Jvm.Term.elem (Jvm.Term.field (Jvm.Term.string "QuarterWalks$StepSet" (50 : Nat)) "java/lang/String" "value" "[B") (Jvm.Term.int (5 : Int32))) (Jvm.Term.int (32 : Int32)),
  Jvm.Cond.eq (Jvm.Term.elem (Jvm.Term.field (Jvm.Term.string "QuarterWalks$StepSet" (50 : Nat)) "java/lang/String" "value" "[B") (Jvm.Term.int (6 : Int32))) (Jvm.Term.int (115 : Int32)),
  Jvm.Cond.eq (Jvm.Term.elem (Jvm.Term.field (Jvm.Term.string "QuarterWalks$StepSet" (50 : Nat)) "java/lang/String" "value" "[B") (Jvm.Term.int (7 : Int32))) (Jvm.Term.int (101 : Int32)),
  Jvm.Cond.eq (Jvm.Term.elem (Jvm.Term.field (Jvm.Term.string "QuarterWalks$StepSet" (50 : Nat)) "java/lang/String" "value" "[B") (Jvm.Term.int (8 : Int32))) (Jvm.Term.int (115 : Int32)),
  Jvm.Cond.eq (Jvm.Term.elem (Jvm.Term.field (Jvm.Term.string "QuarterWalks$StepSet" (50 : Nat)) "java/lang/String" "value" "[B") (Jvm.Term.int (9 : Int32))) (Jvm.Term.int (32 : Int32)),
  Jvm.Cond.eq (Jvm.Term.elem (Jvm.Term.field (Jvm.Term.string "QuarterWalks$StepSet" (50 : Nat)) "java/lang/String" "value" "[B") (Jvm.Term.int (10 : Int32))) (Jvm.Term.int (115 : Int32)),
  Jvm.Cond.eq (Jvm.Term.elem (Jvm.Term.field (Jvm.Term.string "QuarterWalks$StepSet" (50 : Nat)) "java/lang/String" "value" "[B") (Jvm.Term.int (11 : Int32))) (Jvm.Term.int (119 : Int32)),
  Jvm.Cond.eq (Jvm.Term.elem (Jvm.Term.field (Jvm.Term.string "QuarterWalks$StepSet" (50 : Nat)) "java/lang/String" "value" "[B") (Jvm.Term.int (12 : Int32))) (Jvm.Term.int (119 : Int32)),
  Jvm.Cond.eq (Jvm.Term.elem (Jvm.Term.field (Jvm.Term.string "QuarterWalks$StepSet" (50 : Nat)) "java/lang/String" "value" "[B") (Jvm.Term.int (13 : Int32))) (Jvm.Term.int (32 : Int32)),
  Jvm.Cond.eq (Jvm.Term.elem (Jvm.Term.field (Jvm.Term.string "QuarterWalks$StepSet" (50 : Nat)) "java/lang/String" "value" "[B") (Jvm.Term.int (14 : Int32))) (Jvm.Term.int (110 : Int32)),
  Jvm.Cond.eq (Jvm.Term.elem (Jvm.Term.field (Jvm.Term.string "QuarterWalks$StepSet" (50 : Nat)) "java/lang/String" "value" "[B") (Jvm.Term.int (15 : Int32))) (Jvm.Term.int (119 : Int32)),
  Jvm.Cond.eq (Jvm.Term.string "QuarterWalks$Tape" (82 : Nat)) (Jvm.Term.string "QuarterWalks$StepSet" (50 : Nat)),
  Jvm.Cond.exactly (Jvm.Term.string "QuarterWalks$StepSet" (42 : Nat)) "java/lang/String",
  Jvm.Cond.eq (Jvm.Term.field (Jvm.Term.string "QuarterWalks$StepSet" (42 : Nat)) "java/lang/String" "coder" "B") (Jvm.Term.int (0 : Int32)),
  Jvm.Cond.arrayOf (Jvm.Term.field (Jvm.Term.string "QuarterWalks$StepSet" (42 : Nat)) "java/lang/String" "value" "[B") Jvm.ClassFile.FieldType.byte,
  Jvm.Cond.eq (Jvm.Term.length (Jvm.Term.field (Jvm.Term.string "QuarterWalks$StepSet" (42 : Nat)) "java/lang/String" "value" "[B")) (Jvm.Term.int (7 : Int32)),
  Jvm.Cond.eq (Jvm.Term.elem (Jvm.Term.field (Jvm.Term.string "QuarterWalks$StepSet" (42 : Nat)) "java/lang/String" "value" "[B") (Jvm.Term.int (0 : Int32))) (Jvm.Term.int (59 : Int32)),
  Jvm.Cond.eq (Jvm.Term.elem (Jvm.Term.field (Jvm.Term.string "QuarterWalks$StepSet" (42 : Nat)) "java/lang/String" "value" "[B") (Jvm.Term.int (1 : Int32))) (Jvm.Term.int (32 : Int32)),
  Jvm.Cond.eq (Jvm.Term.elem (Jvm.Term.field (Jvm.Term.string "QuarterWalks$StepSet" (42 : Nat)) "java/lang/String" "value" "[B") (Jvm.Term.int (2 : Int32))) (Jvm.Term.int (102 : Int32)),
  Jvm.Cond.eq (Jvm.Term.elem (Jvm.Term.field (Jvm.Term.string "QuarterWalks$StepSet" (42 : Nat)) "java/lang/String" "value" "[B") (Jvm.Term.int (3 : Int32))) (Jvm.Term.int (114 : Int32)),
  Jvm.Cond.eq (Jvm.Term.elem (Jvm.Term.field (Jvm.Term.string "QuarterWalks$StepSet" (42 : Nat)) "java/lang/String" "value" "[B") (Jvm.Term.int (4 : Int32))) (Jvm.Term.int (111 : Int32)),
  Jvm.Cond.eq (Jvm.Term.elem (Jvm.Term.field (Jvm.Term.string "QuarterWalks$StepSet" (42 : Nat)) "java/lang/String" "value" "[B") (Jvm.Term.int (5 : Int32))) (Jvm.Term.int (109 : Int32)),
  Jvm.Cond.eq (Jvm.Term.elem (Jvm.Term.field (Jvm.Term.string "QuarterWalks$StepSet" (42 : Nat)) "java/lang/String" "value" "[B") (Jvm.Term.int (6 : Int32))) (Jvm.Term.int (32 : Int32)),
  Jvm.Cond.not (Jvm.Cond.eq (Jvm.Term.string "QuarterWalks$Tape" (82 : Nat)) (Jvm.Term.string "QuarterWalks$StepSet" (42 : Nat))),
  Jvm.Cond.not (Jvm.Cond.eq (Jvm.Term.string "QuarterWalks$StepSet" (50 : Nat)) (Jvm.Term.string "QuarterWalks$StepSet" (42 : Nat))),
  Jvm.Cond.exactly (Jvm.Term.string "QuarterWalksModel" (114 : Nat)) "java/lang/String",
  Jvm.Cond.eq (Jvm.Term.field (Jvm.Term.string "QuarterWalksModel" (114 : Nat)) "java/lang/String" "coder" "B") (Jvm.Term.int (0 : Int32)),
  Jvm.Cond.arrayOf (Jvm.Term.field (Jvm.Term.string "QuarterWalksModel" (114 : Nat)) "java/lang/String" "value" "[B") Jvm.ClassFile.FieldType.byte,
  Jvm.Cond.eq (Jvm.Term.length (Jvm.Term.field (Jvm.Term.string "QuarterWalksModel" (114 : Nat)) "java/lang/String" "value" "[B")) (Jvm.Term.int (1 : Int32)),
  Jvm.Cond.eq (Jvm.Term.elem (Jvm.Term.field (Jvm.Term.string "QuarterWalksModel" (114 : Nat)) "java/lang/String" "value" "[B") (Jvm.Term.int (0 : Int32))) (Jvm.Term.int (110 : Int32)),
  Jvm.Cond.not (Jvm.Cond.eq (Jvm.Term.string "QuarterWalks$Tape" (82 : Nat)) (Jvm.Term.string "QuarterWalksModel" (114 : Nat))),
  Jvm.Cond.not (Jvm.Cond.eq (Jvm.Term.string "QuarterWalks$StepSet" (50 : Nat)) (Jvm.Term.string "QuarterWalksModel" (114 : Nat))),
  Jvm.Cond.not (Jvm.Cond.eq (Jvm.Term.string "QuarterWalks$StepSet" (42 : Nat)) (Jvm.Term.string "QuarterWalksModel" (114 : Nat))),
  Jvm.Cond.exactly (Jvm.Term.string "QuarterWalksModel" (120 : Nat)) "java/lang/String",
  Jvm.Cond.eq (Jvm.Term.field (Jvm.Term.string "QuarterWalksModel" (120 : Nat)) "java/lang/String" "coder" "B") (Jvm.Term.int (0 : Int32)),
  Jvm.Cond.arrayOf (Jvm.Term.field (Jvm.Term.string "QuarterWalksModel" (120 : Nat)) "java/lang/String" "value" "[B") Jvm.ClassFile.FieldType.byte,
  Jvm.Cond.eq (Jvm.Term.length (Jvm.Term.field (Jvm.Term.string "QuarterWalksModel" (120 : Nat)) "java/lang/String" "value" "[B")) (Jvm.Term.int (2 : Int32)),
  Jvm.Cond.eq (Jvm.Term.elem (Jvm.Term.field (Jvm.Term.string "QuarterWalksModel" (120 : Nat)) "java/lang/String" "value" "[B") (Jvm.Term.int (0 : Int32))) (Jvm.Term.int (110 : Int32)),
  Jvm.Cond.eq (Jvm.Term.elem (Jvm.Term.field (Jvm.Term.string "QuarterWalksModel" (120 : Nat)) "java/lang/String" "value" "[B") (Jvm.Term.int (1 : Int32))) (Jvm.Term.int (101 : Int32)),
  Jvm.Cond.not (Jvm.Cond.eq (Jvm.Term.string "QuarterWalks$Tape" (82 : Nat)) (Jvm.Term.string "QuarterWalksModel" (120 : Nat))),
  Jvm.Cond.not (Jvm.Cond.eq (Jvm.Term.string "QuarterWalks$StepSet" (50 : Nat)) (Jvm.Term.string "QuarterWalksModel" (120 : Nat))),
  Jvm.Cond.not (Jvm.Cond.eq (Jvm.Term.string "QuarterWalks$StepSet" (42 : Nat)) (Jvm.Term.string "QuarterWalksModel" (120 : Nat))),
  Jvm.Cond.not (Jvm.Cond.eq (Jvm.Term.string "QuarterWalksModel" (114 : Nat)) (Jvm.Term.string "QuarterWalksModel" (120 : Nat))),
  Jvm.Cond.exactly (Jvm.Term.string "QuarterWalksModel" (122 : Nat)) "java/lang/String",
  Jvm.Cond.eq (Jvm.Term.field (Jvm.Term.string "QuarterWalksModel" (122 : Nat)) "java/lang/String" "coder" "B") (Jvm.Term.int (0 : Int32)),
  Jvm.Cond.arrayOf (Jvm.Term.field (Jvm.Term.string "QuarterWalksModel" (122 : Nat)) "java/lang/String" "value" "[B") Jvm.ClassFile.FieldType.byte,
  Jvm.Cond.eq (Jvm.Term.length (Jvm.Term.field (Jvm.Term.string "QuarterWalksModel" (122 : Nat)) "java/lang/String" "value" "[B")) (Jvm.Term.int (1 : Int32)),
  Jvm.Cond.eq (Jvm.Term.elem (Jvm.Term.field (Jvm.Term.string "QuarterWalksModel" (122 : Nat)) "java/lang/String" "value" "[B") (Jvm.Term.int (0 : Int32))) (Jvm.Term.int (101 : Int32)),
  Jvm.Cond.not (Jvm.Cond.eq (Jvm.Term.string "QuarterWalks$Tape" (82 : Nat)) (Jvm.Term.string "QuarterWalksModel" (122 : Nat))),
  Jvm.Cond.not (Jvm.Cond.eq (Jvm.Term.string "QuarterWalks$StepSet" (50 : Nat)) (Jvm.Term.string "QuarterWalksModel" (122 : Nat))),
  Jvm.Cond.not (Jvm.Cond.eq (Jvm.Term.string "QuarterWalks$StepSet" (42 : Nat)) (Jvm.Term.string "QuarterWalksModel" (122 : Nat))),
  Jvm.Cond.not (Jvm.Cond.eq (Jvm.Term.string "QuarterWalksModel" (114 : Nat)) (Jvm.Term.string "QuarterWalksModel" (122 : Nat))),
  Jvm.Cond.not (Jvm.Cond.eq (Jvm.Term.string "QuarterWalksModel" (120 : Nat)) (Jvm.Term.string "QuarterWalksModel" (122 : Nat))),
  Jvm.Cond.exactly (Jvm.Term.string "QuarterWalksModel" (124 : Nat)) "java/lang/String",
  Jvm.Cond.eq (Jvm.Term.field (Jvm.Term.string "QuarterWalksModel" (124 : Nat)) "java/lang/String" "coder" "B") (Jvm.Term.int (0 : Int32)),
  Jvm.Cond.arrayOf (Jvm.Term.field (Jvm.Term.string "QuarterWalksModel" (124 : Nat)) "java/lang/String" "value" "[B") Jvm.ClassFile.FieldType.byte,
  Jvm.Cond.eq (Jvm.Term.length (Jvm.Term.field (Jvm.Term.string "QuarterWalksModel" (124 : Nat)) "java/lang/String" "value" "[B")) (Jvm.Term.int (2 : Int32)),
  Jvm.Cond.eq (Jvm.Term.elem (Jvm.Term.field (Jvm.Term.string "QuarterWalksModel" (124 : Nat)) "java/lang/String" "value" "[B") (Jvm.Term.int (0 : Int32))) (Jvm.Term.int (115 : Int32)),
  Jvm.Cond.eq (Jvm.Term.elem (Jvm.Term.field (Jvm.Term.string "QuarterWalksModel" (124 : Nat)) "java/lang/String" "value" "[B") (Jvm.Term.int (1 : Int32))) (Jvm.Term.int (101 : Int32)),
  Jvm.Cond.not (Jvm.Cond.eq (Jvm.Term.string "QuarterWalks$Tape" (82 : Nat)) (Jvm.Term.string "QuarterWalksModel" (124 : Nat))),
  Jvm.Cond.not (Jvm.Cond.eq (Jvm.Term.string "QuarterWalks$StepSet" (50 : Nat)) (Jvm.Term.string "QuarterWalksModel" (124 : Nat))),
  Jvm.Cond.not (Jvm.Cond.eq (Jvm.Term.string "QuarterWalks$StepSet" (42 : Nat)) (Jvm.Term.string "QuarterWalksModel" (124 : Nat))),
  Jvm.Cond.not (Jvm.Cond.eq (Jvm.Term.string "QuarterWalksModel" (114 : Nat)) (Jvm.Term.string "QuarterWalksModel" (124 : Nat))),
  Jvm.Cond.not (Jvm.Cond.eq (Jvm.Term.string "QuarterWalksModel" (120 : Nat)) (Jvm.Term.string "QuarterWalksModel" (124 : Nat))),
  Jvm.Cond.not (Jvm.Cond.eq (Jvm.Term.string "QuarterWalksModel" (122 : Nat)) (Jvm.Term.string "QuarterWalksModel" (124 : Nat))),
  Jvm.Cond.exactly (Jvm.Term.string "QuarterWalksModel" (126 : Nat)) "java/lang/String",
  Jvm.Cond.eq (Jvm.Term.field (Jvm.Term.string "QuarterWalksModel" (126 : Nat)) "java/lang/String" "coder" "B") (Jvm.Term.int (0 : Int32)),
  Jvm.Cond.arrayOf (Jvm.Term.field (Jvm.Term.string "QuarterWalksModel" (126 : Nat)) "java/lang/String" "value" "[B") Jvm.ClassFile.FieldType.byte,
  Jvm.Cond.eq (Jvm.Term.length (Jvm.Term.field (Jvm.Term.string "QuarterWalksModel" (126 : Nat)) "java/lang/String" "value" "[B")) (Jvm.Term.int (1 : Int32)),
  Jvm.Cond.eq (Jvm.Term.elem (Jvm.Term.field (Jvm.Term.string "QuarterWalksModel" (126 : Nat)) "java/lang/String" "value" "[B") (Jvm.Term.int (0 : Int32))) (Jvm.Term.int (115 : Int32)),
  Jvm.Cond.not (Jvm.Cond.eq (Jvm.Term.string "QuarterWalks$Tape" (82 : Nat)) (Jvm.Term.string "QuarterWalksModel" (126 : Nat))),
  Jvm.Cond.not (Jvm.Cond.eq (Jvm.Term.string "QuarterWalks$StepSet" (50 : Nat)) (Jvm.Term.string "QuarterWalksModel" (126 : Nat))),
  Jvm.Cond.not (Jvm.Cond.eq (Jvm.Term.string "QuarterWalks$StepSet" (42 : Nat)) (Jvm.Term.string "QuarterWalksModel" (126 : Nat))),
  Jvm.Cond.not (Jvm.Cond.eq (Jvm.Term.string "QuarterWalksModel" (114 : Nat)) (Jvm.Term.string "QuarterWalksModel" (126 : Nat))),
  Jvm.Cond.not (Jvm.Cond.eq (Jvm.Term.string "QuarterWalksModel" (120 : Nat)) (Jvm.Term.string "QuarterWalksModel" (126 : Nat))),
  Jvm.Cond.not (Jvm.Cond.eq (Jvm.Term.string "QuarterWalksModel" (122 : Nat)) (Jvm.Term.string "QuarterWalksModel" (126 : Nat))),
  Jvm.Cond.not (Jvm.Cond.eq (Jvm.Term.string "QuarterWalksModel" (124 : Nat)) (Jvm.Term.string "QuarterWalksModel" (126 : Nat))),
  Jvm.Cond.exactly (Jvm.Term.string "QuarterWalksModel" (128 : Nat)) "java/lang/String",
  Jvm.Cond.eq (Jvm.Term.field (Jvm.Term.string "QuarterWalksModel" (128 : Nat)) "java/lang/String" "coder" "B") (Jvm.Term.int (0 : Int32)),
  Jvm.Cond.arrayOf (Jvm.Term.field (Jvm.Term.string "QuarterWalksModel" (128 : Nat)) "java/lang/String" "value" "[B") Jvm.ClassFile.FieldType.byte,
  Jvm.Cond.eq (Jvm.Term.length (Jvm.Term.field (Jvm.Term.string "QuarterWalksModel" (128 : Nat)) "java/lang/String" "value" "[B")) (Jvm.Term.int (2 : Int32)),
  Jvm.Cond.eq (Jvm.Term.elem (Jvm.Term.field (Jvm.Term.string "QuarterWalksModel" (128 : Nat)) "java/lang/String" "value" "[B") (Jvm.Term.int (0 : Int32))) (Jvm.Term.int (115 : Int32)),
  Jvm.Cond.eq (Jvm.Term.elem (Jvm.Term.field (Jvm.Term.string "QuarterWalksModel" (128 : Nat)) "java/lang/String" "value" "[B") (Jvm.Term.int (1 : Int32))) (Jvm.Term.int (119 : Int32)),
  Jvm.Cond.not (Jvm.Cond.eq (Jvm.Term.string "QuarterWalks$Tape" (82 : Nat)) (Jvm.Term.string "QuarterWalksModel" (128 : Nat))),
  Jvm.Cond.not (Jvm.Cond.eq (Jvm.Term.string "QuarterWalks$StepSet" (50 : Nat)) (Jvm.Term.string "QuarterWalksModel" (128 : Nat))),
  Jvm.Cond.not (Jvm.Cond.eq (Jvm.Term.string "QuarterWalks$StepSet" (42 : Nat)) (Jvm.Term.string "QuarterWalksModel" (128 : Nat))),
  Jvm.Cond.not (Jvm.Cond.eq (Jvm.Term.string "QuarterWalksModel" (114 : Nat)) (Jvm.Term.string "QuarterWalksModel" (128 : Nat))),
  Jvm.Cond.not (Jvm.Cond.eq (Jvm.Term.string "QuarterWalksModel" (120 : Nat)) (Jvm.Term.string "QuarterWalksModel" (128 : Nat))),
  Jvm.Cond.not (Jvm.Cond.eq (Jvm.Term.string "QuarterWalksModel" (122 : Nat)) (Jvm.Term.string "QuarterWalksModel" (128 : Nat))),
  Jvm.Cond.not (Jvm.Cond.eq (Jvm.Term.string "QuarterWalksModel" (124 : Nat)) (Jvm.Term.string "QuarterWalksModel" (128 : Nat))),
  Jvm.Cond.not (Jvm.Cond.eq (Jvm.Term.string "QuarterWalksModel" (126 : Nat)) (Jvm.Term.string "QuarterWalksModel" (128 : Nat))),
  Jvm.Cond.exactly (Jvm.Term.string "QuarterWalksModel" (130 : Nat)) "java/lang/String",
  Jvm.Cond.eq (Jvm.Term.field (Jvm.Term.string "QuarterWalksModel" (130 : Nat)) "java/lang/String" "coder" "B") (Jvm.Term.int (0 : Int32)),
  Jvm.Cond.arrayOf (Jvm.Term.field (Jvm.Term.string "QuarterWalksModel" (130 : Nat)) "java/lang/String" "value" "[B") Jvm.ClassFile.FieldType.byte,
  Jvm.Cond.eq (Jvm.Term.length (Jvm.Term.field (Jvm.Term.string "QuarterWalksModel" (130 : Nat)) "java/lang/String" "value" "[B")) (Jvm.Term.int (1 : Int32)),
  Jvm.Cond.eq (Jvm.Term.elem (Jvm.Term.field (Jvm.Term.string "QuarterWalksModel" (130 : Nat)) "java/lang/String" "value" "[B") (Jvm.Term.int (0 : Int32))) (Jvm.Term.int (119 : Int32)),
  Jvm.Cond.not (Jvm.Cond.eq (Jvm.Term.string "QuarterWalks$Tape" (82 : Nat)) (Jvm.Term.string "QuarterWalksModel" (130 : Nat))),
  Jvm.Cond.not (Jvm.Cond.eq (Jvm.Term.string "QuarterWalks$StepSet" (50 : Nat)) (Jvm.Term.string "QuarterWalksModel" (130 : Nat))),
  Jvm.Cond.not (Jvm.Cond.eq (Jvm.Term.string "QuarterWalks$StepSet" (42 : Nat)) (Jvm.Term.string "QuarterWalksModel" (130 : Nat))),
  Jvm.Cond.not (Jvm.Cond.eq (Jvm.Term.string "QuarterWalksModel" (114 : Nat)) (Jvm.Term.string "QuarterWalksModel" (130 : Nat))),
  Jvm.Cond.not (Jvm.Cond.eq (Jvm.Term.string "QuarterWalksModel" (120 : Nat)) (Jvm.Term.string "QuarterWalksModel" (130 : Nat))),
  Jvm.Cond.not (Jvm.Cond.eq (Jvm.Term.string "QuarterWalksModel" (122 : Nat)) (Jvm.Term.string "QuarterWalksModel" (130 : Nat))),
  Jvm.Cond.not (Jvm.Cond.eq (Jvm.Term.string "QuarterWalksModel" (124 : Nat)) (Jvm.Term.string "QuarterWalksModel" (130 : Nat))),
  Jvm.Cond.not (Jvm.Cond.eq (Jvm.Term.string "QuarterWalksModel" (126 : Nat)) (Jvm.Term.string "QuarterWalksModel" (130 : Nat))),
  Jvm.Cond.not (Jvm.Cond.eq (Jvm.Term.string "QuarterWalksModel" (128 : Nat)) (Jvm.Term.string "QuarterWalksModel" (130 : Nat))),
  Jvm.Cond.exactly (Jvm.Term.string "QuarterWalksModel" (132 : Nat)) "java/lang/String",
  Jvm.Cond.eq (Jvm.Term.field (Jvm.Term.string "QuarterWalksModel" (132 : Nat)) "java/lang/String" "coder" "B") (Jvm.Term.int (0 : Int32)),
  Jvm.Cond.arrayOf (Jvm.Term.field (Jvm.Term.string "QuarterWalksModel" (132 : Nat)) "java/lang/String" "value" "[B") Jvm.ClassFile.FieldType.byte,
  Jvm.Cond.eq (Jvm.Term.length (Jvm.Term.field (Jvm.Term.string "QuarterWalksModel" (132 : Nat)) "java/lang/String" "value" "[B")) (Jvm.Term.int (2 : Int32)),
  Jvm.Cond.eq (Jvm.Term.elem (Jvm.Term.field (Jvm.Term.string "QuarterWalksModel" (132 : Nat)) "java/lang/String" "value" "[B") (Jvm.Term.int (0 : Int32))) (Jvm.Term.int (110 : Int32)),
  Jvm.Cond.eq (Jvm.Term.elem (Jvm.Term.field (Jvm.Term.string "QuarterWalksModel" (132 : Nat)) "java/lang/String" "value" "[B") (Jvm.Term.int (1 : Int32))) (Jvm.Term.int (119 : Int32)),
  Jvm.Cond.not (Jvm.Cond.eq (Jvm.Term.string "QuarterWalks$Tape" (82 : Nat)) (Jvm.Term.string "QuarterWalksModel" (132 : Nat))),
  Jvm.Cond.not (Jvm.Cond.eq (Jvm.Term.string "QuarterWalks$StepSet" (50 : Nat)) (Jvm.Term.string "QuarterWalksModel" (132 : Nat))),
  Jvm.Cond.not (Jvm.Cond.eq (Jvm.Term.string "QuarterWalks$StepSet" (42 : Nat)) (Jvm.Term.string "QuarterWalksModel" (132 : Nat))),
  Jvm.Cond.not (Jvm.Cond.eq (Jvm.Term.string "QuarterWalksModel" (114 : Nat)) (Jvm.Term.string "QuarterWalksModel" (132 : Nat))),
  Jvm.Cond.not (Jvm.Cond.eq (Jvm.Term.string "QuarterWalksModel" (120 : Nat)) (Jvm.Term.string "QuarterWalksModel" (132 : Nat))),
  Jvm.Cond.not (Jvm.Cond.eq (Jvm.Term.string "QuarterWalksModel" (122 : Nat)) (Jvm.Term.string "QuarterWalksModel" (132 : Nat))),
  Jvm.Cond.not (Jvm.Cond.eq (Jvm.Term.string "QuarterWalksModel" (124 : Nat)) (Jvm.Term.string "QuarterWalksModel" (132 : Nat))),
  Jvm.Cond.not (Jvm.Cond.eq (Jvm.Term.string "QuarterWalksModel" (126 : Nat)) (Jvm.Term.string "QuarterWalksModel" (132 : Nat))),
  Jvm.Cond.not (Jvm.Cond.eq (Jvm.Term.string "QuarterWalksModel" (128 : Nat)) (Jvm.Term.string "QuarterWalksModel" (132 : Nat))),
  Jvm.Cond.not (Jvm.Cond.eq (Jvm.Term.string "QuarterWalksModel" (130 : Nat)) (Jvm.Term.string "QuarterWalksModel" (132 : Nat))),
  Jvm.Cond.exactly (Jvm.Term.string "QuarterWalksModel" (144 : Nat)) "java/lang/String",
  Jvm.Cond.eq (Jvm.Term.field (Jvm.Term.string "QuarterWalksModel" (144 : Nat)) "java/lang/String" "coder" "B") (Jvm.Term.int (0 : Int32)),
  Jvm.Cond.arrayOf (Jvm.Term.field (Jvm.Term.string "QuarterWalksModel" (144 : Nat)) "java/lang/String" "value" "[B") Jvm.ClassFile.FieldType.byte,
  Jvm.Cond.eq (Jvm.Term.length (Jvm.Term.field (Jvm.Term.string "QuarterWalksModel" (144 : Nat)) "java/lang/String" "value" "[B")) (Jvm.Term.int (4 : Int32)),
  Jvm.Cond.eq (Jvm.Term.elem (Jvm.Term.field (Jvm.Term.string "QuarterWalksModel" (144 : Nat)) "java/lang/String" "value" "[B") (Jvm.Term.int (0 : Int32))) (Jvm.Term.int (102 : Int32)),
  Jvm.Cond.eq (Jvm.Term.elem (Jvm.Term.field (Jvm.Term.string "QuarterWalksModel" (144 : Nat)) "java/lang/String" "value" "[B") (Jvm.Term.int (1 : Int32))) (Jvm.Term.int (114 : Int32)),
  Jvm.Cond.eq (Jvm.Term.elem (Jvm.Term.field (Jvm.Term.string "QuarterWalksModel" (144 : Nat)) "java/lang/String" "value" "[B") (Jvm.Term.int (2 : Int32))) (Jvm.Term.int (111 : Int32)),
  Jvm.Cond.eq (Jvm.Term.elem (Jvm.Term.field (Jvm.Term.string "QuarterWalksModel" (144 : Nat)) "java/lang/String" "value" "[B") (Jvm.Term.int (3 : Int32))) (Jvm.Term.int (109 : Int32)),
  Jvm.Cond.not (Jvm.Cond.eq (Jvm.Term.string "QuarterWalks$Tape" (82 : Nat)) (Jvm.Term.string "QuarterWalksModel" (144 : Nat))),
  Jvm.Cond.not (Jvm.Cond.eq (Jvm.Term.string "QuarterWalks$StepSet" (50 : Nat)) (Jvm.Term.string "QuarterWalksModel" (144 : Nat))),
  Jvm.Cond.not (Jvm.Cond.eq (Jvm.Term.string "QuarterWalks$StepSet" (42 : Nat)) (Jvm.Term.string "QuarterWalksModel" (144 : Nat))),
  Jvm.Cond.not (Jvm.Cond.eq (Jvm.Term.string "QuarterWalksModel" (114 : Nat)) (Jvm.Term.string "QuarterWalksModel" (144 : Nat))),
  Jvm.Cond.not (Jvm.Cond.eq (Jvm.Term.string "QuarterWalksModel" (120 : Nat)) (Jvm.Term.string "QuarterWalksModel" (144 : Nat))),
  Jvm.Cond.not (Jvm.Cond.eq (Jvm.Term.string "QuarterWalksModel" (122 : Nat)) (Jvm.Term.string "QuarterWalksModel" (144 : Nat))),
  Jvm.Cond.not (Jvm.Cond.eq (Jvm.Term.string "QuarterWalksModel" (124 : Nat)) (Jvm.Term.string "QuarterWalksModel" (144 : Nat))),
  Jvm.Cond.not (Jvm.Cond.eq (Jvm.Term.string "QuarterWalksModel" (126 : Nat)) (Jvm.Term.string "QuarterWalksModel" (144 : Nat))),
  Jvm.Cond.not (Jvm.Cond.eq (Jvm.Term.string "QuarterWalksModel" (128 : Nat)) (Jvm.Term.string "QuarterWalksModel" (144 : Nat))),
  Jvm.Cond.not (Jvm.Cond.eq (Jvm.Term.string "QuarterWalksModel" (130 : Nat)) (Jvm.Term.string "QuarterWalksModel" (144 : Nat))),
  Jvm.Cond.not (Jvm.Cond.eq (Jvm.Term.string "QuarterWalksModel" (132 : Nat)) (Jvm.Term.string "QuarterWalksModel" (144 : Nat))),
  Jvm.Cond.exactly (Jvm.Term.string "QuarterWalksModel" (420 : Nat)) "java/lang/String",
  Jvm.Cond.eq (Jvm.Term.field (Jvm.Term.string "QuarterWalksModel" (420 : Nat)) "java/lang/String" "coder" "B") (Jvm.Term.int (0 : Int32)),
  Jvm.Cond.arrayOf (Jvm.Term.field (Jvm.Term.string "QuarterWalksModel" (420 : Nat)) "java/lang/String" "value" "[B") Jvm.ClassFile.FieldType.byte,
  Jvm.Cond.eq (Jvm.Term.length (Jvm.Term.field (Jvm.Term.string "QuarterWalksModel" (420 : Nat)) "java/lang/String" "value" "[B")) (Jvm.Term.int (1 : Int32)),
  Jvm.Cond.eq (Jvm.Term.elem (Jvm.Term.field (Jvm.Term.string "QuarterWalksModel" (420 : Nat)) "java/lang/String" "value" "[B") (Jvm.Term.int (0 : Int32))) (Jvm.Term.int (32 : Int32)),
  Jvm.Cond.not (Jvm.Cond.eq (Jvm.Term.string "QuarterWalks$Tape" (82 : Nat)) (Jvm.Term.string "QuarterWalksModel" (420 : Nat))),
  Jvm.Cond.not (Jvm.Cond.eq (Jvm.Term.string "QuarterWalks$StepSet" (50 : Nat)) (Jvm.Term.string "QuarterWalksModel" (420 : Nat))),
  Jvm.Cond.not (Jvm.Cond.eq (Jvm.Term.string "QuarterWalks$StepSet" (42 : Nat)) (Jvm.Term.string "QuarterWalksModel" (420 : Nat))),
  Jvm.Cond.not (Jvm.Cond.eq (Jvm.Term.string "QuarterWalksModel" (114 : Nat)) (Jvm.Term.string "QuarterWalksModel" (420 : Nat))),
  Jvm.Cond.not (Jvm.Cond.eq (Jvm.Term.string "QuarterWalksModel" (120 : Nat)) (Jvm.Term.string "QuarterWalksModel" (420 : Nat))),
  Jvm.Cond.not (Jvm.Cond.eq (Jvm.Term.string "QuarterWalksModel" (122 : Nat)) (Jvm.Term.string "QuarterWalksModel" (420 : Nat))),
  Jvm.Cond.not (Jvm.Cond.eq (Jvm.Term.string "QuarterWalksModel" (124 : Nat)) (Jvm.Term.string "QuarterWalksModel" (420 : Nat))),
  Jvm.Cond.not (Jvm.Cond.eq (Jvm.Term.string "QuarterWalksModel" (126 : Nat)) (Jvm.Term.string "QuarterWalksModel" (420 : Nat))),
  Jvm.Cond.not (Jvm.Cond.eq (Jvm.Term.string "QuarterWalksModel" (128 : Nat)) (Jvm.Term.string "QuarterWalksModel" (420 : Nat))),
  Jvm.Cond.not (Jvm.Cond.eq (Jvm.Term.string "QuarterWalksModel" (130 : Nat)) (Jvm.Term.string "QuarterWalksModel" (420 : Nat))),
  Jvm.Cond.not (Jvm.Cond.eq (Jvm.Term.string "QuarterWalksModel" (132 : Nat)) (Jvm.Term.string "QuarterWalksModel" (420 : Nat))),
  Jvm.Cond.not (Jvm.Cond.eq (Jvm.Term.string "QuarterWalksModel" (144 : Nat)) (Jvm.Term.string "QuarterWalksModel" (420 : Nat))),
  Jvm.Cond.exactly (Jvm.Term.string "QuarterWalksModel" (432 : Nat)) "java/lang/String",
  Jvm.Cond.eq (Jvm.Term.field (Jvm.Term.string "QuarterWalksModel" (432 : Nat)) "java/lang/String" "coder" "B") (Jvm.Term.int (0 : Int32)),
  Jvm.Cond.arrayOf (Jvm.Term.field (Jvm.Term.string "QuarterWalksModel" (432 : Nat)) "java/lang/String" "value" "[B") Jvm.ClassFile.FieldType.byte,
  Jvm.Cond.eq (Jvm.Term.length (Jvm.Term.field (Jvm.Term.string "QuarterWalksModel" (432 : Nat)) "java/lang/String" "value" "[B")) (Jvm.Term.int (7 : Int32)),
  Jvm.Cond.eq (Jvm.Term.elem (Jvm.Term.field (Jvm.Term.string "QuarterWalksModel" (432 : Nat)) "java/lang/String" "value" "[B") (Jvm.Term.int (0 : Int32))) (Jvm.Term.int (59 : Int32)),
  Jvm.Cond.eq (Jvm.Term.elem (Jvm.Term.field (Jvm.Term.string "QuarterWalksModel" (432 : Nat)) "java/lang/String" "value" "[B") (Jvm.Term.int (1 : Int32))) (Jvm.Term.int (32 : Int32)),
  Jvm.Cond.eq (Jvm.Term.elem (Jvm.Term.field (Jvm.Term.string "QuarterWalksModel" (432 : Nat)) "java/lang/String" "value" "[B") (Jvm.Term.int (2 : Int32))) (Jvm.Term.int (102 : Int32)),
  Jvm.Cond.eq (Jvm.Term.elem (Jvm.Term.field (Jvm.Term.string "QuarterWalksModel" (432 : Nat)) "java/lang/String" "value" "[B") (Jvm.Term.int (3 : Int32))) (Jvm.Term.int (114 : Int32)),
  Jvm.Cond.eq (Jvm.Term.elem (Jvm.Term.field (Jvm.Term.string "QuarterWalksModel" (432 : Nat)) "java/lang/String" "value" "[B") (Jvm.Term.int (4 : Int32))) (Jvm.Term.int (111 : Int32)),
  Jvm.Cond.eq (Jvm.Term.elem (Jvm.Term.field (Jvm.Term.string "QuarterWalksModel" (432 : Nat)) "java/lang/String" "value" "[B") (Jvm.Term.int (5 : Int32))) (Jvm.Term.int (109 : Int32)),
  Jvm.Cond.eq (Jvm.Term.elem (Jvm.Term.field (Jvm.Term.string "QuarterWalksModel" (432 : Nat)) "java/lang/String" "value" "[B") (Jvm.Term.int (6 : Int32))) (Jvm.Term.int (32 : Int32)),
  Jvm.Cond.not (Jvm.Cond.eq (Jvm.Term.string "QuarterWalks$Tape" (82 : Nat)) (Jvm.Term.string "QuarterWalksModel" (432 : Nat))),
  Jvm.Cond.not (Jvm.Cond.eq (Jvm.Term.string "QuarterWalks$StepSet" (50 : Nat)) (Jvm.Term.string "QuarterWalksModel" (432 : Nat))),
  Jvm.Cond.eq (Jvm.Term.string "QuarterWalks$StepSet" (42 : Nat)) (Jvm.Term.string "QuarterWalksModel" (432 : Nat)),
  Jvm.Cond.not (Jvm.Cond.eq (Jvm.Term.string "QuarterWalksModel" (114 : Nat)) (Jvm.Term.string "QuarterWalksModel" (432 : Nat))),
  Jvm.Cond.not (Jvm.Cond.eq (Jvm.Term.string "QuarterWalksModel" (120 : Nat)) (Jvm.Term.string "QuarterWalksModel" (432 : Nat))),
  Jvm.Cond.not (Jvm.Cond.eq (Jvm.Term.string "QuarterWalksModel" (122 : Nat)) (Jvm.Term.string "QuarterWalksModel" (432 : Nat))),
  Jvm.Cond.not (Jvm.Cond.eq (Jvm.Term.string "QuarterWalksModel" (124 : Nat)) (Jvm.Term.string "QuarterWalksModel" (432 : Nat))),
  Jvm.Cond.not (Jvm.Cond.eq (Jvm.Term.string "QuarterWalksModel" (126 : Nat)) (Jvm.Term.string "QuarterWalksModel" (432 : Nat))),
  Jvm.Cond.not (Jvm.Cond.eq (Jvm.Term.string "QuarterWalksModel" (128 : Nat)) (Jvm.Term.string "QuarterWalksModel" (432 : Nat))),
  Jvm.Cond.not (Jvm.Cond.eq (Jvm.Term.string "QuarterWalksModel" (130 : Nat)) (Jvm.Term.string "QuarterWalksModel" (432 : Nat))),
  Jvm.Cond.not (Jvm.Cond.eq (Jvm.Term.string "QuarterWalksModel" (132 : Nat)) (Jvm.Term.string "QuarterWalksModel" (432 : Nat))),
  Jvm.Cond.not (Jvm.Cond.eq (Jvm.Term.string "QuarterWalksModel" (144 : Nat)) (Jvm.Term.string "QuarterWalksModel" (432 : Nat))),
  Jvm.Cond.not (Jvm.Cond.eq (Jvm.Term.string "QuarterWalksModel" (420 : Nat)) (Jvm.Term.string "QuarterWalksModel" (432 : Nat))),
  Jvm.Cond.not (Jvm.Cond.eq (Jvm.Term.arg (0 : Nat)) (Jvm.Term.static "QuarterWalks" "MIRRORED" "[I")),
  Jvm.Cond.not (Jvm.Cond.eq (Jvm.Term.arg (0 : Nat)) (Jvm.Term.static "QuarterWalks" "OPPOSITE" "[I")),
  Jvm.Cond.not (Jvm.Cond.eq (Jvm.Term.arg (0 : Nat)) (Jvm.Term.static "QuarterWalks" "DX" "[I")),
  Jvm.Cond.not (Jvm.Cond.eq (Jvm.Term.arg (0 : Nat)) (Jvm.Term.static "QuarterWalks" "DY" "[I")),
  Jvm.Cond.not (Jvm.Cond.eq (Jvm.Term.arg (0 : Nat)) (Jvm.Term.static "QuarterWalks" "X_LESS" "[I")),
  Jvm.Cond.not (Jvm.Cond.eq (Jvm.Term.arg (0 : Nat)) (Jvm.Term.static "QuarterWalks" "Y_LESS" "[I")),
  Jvm.Cond.exactly (Jvm.Term.static "QuarterWalks" "MIRRORED" "[I") "[I",
  Jvm.Cond.exactly (Jvm.Term.static "QuarterWalks" "OPPOSITE" "[I") "[I",
  Jvm.Cond.exactly (Jvm.Term.static "QuarterWalks" "DX" "[I") "[I",
  Jvm.Cond.exactly (Jvm.Term.static "QuarterWalks" "DY" "[I") "[I",
  Jvm.Cond.exactly (Jvm.Term.static "QuarterWalks" "X_LESS" "[I") "[I",
  Jvm.Cond.exactly (Jvm.Term.static "QuarterWalks" "Y_LESS" "[I") "[I",
  Jvm.Cond.exactly (Jvm.Term.static "java/lang/Integer" "DigitOnes" "[B") "[B",
  Jvm.Cond.exactly (Jvm.Term.static "java/lang/Integer" "DigitTens" "[B") "[B",
  Jvm.Cond.exactly (Jvm.Term.field (Jvm.Term.string "QuarterWalks$Tape" (82 : Nat)) "java/lang/String" "value" "[B") "[B",
  Jvm.Cond.exactly (Jvm.Term.field (Jvm.Term.string "QuarterWalks$StepSet" (50 : Nat)) "java/lang/String" "value" "[B") "[B",
  Jvm.Cond.exactly (Jvm.Term.field (Jvm.Term.string "QuarterWalks$StepSet" (42 : Nat)) "java/lang/String" "value" "[B") "[B",
  Jvm.Cond.exactly (Jvm.Term.field (Jvm.Term.string "QuarterWalksModel" (114 : Nat)) "java/lang/String" "value" "[B") "[B",
  Jvm.Cond.exactly (Jvm.Term.field (Jvm.Term.string "QuarterWalksModel" (120 : Nat)) "java/lang/String" "value" "[B") "[B",
  Jvm.Cond.exactly (Jvm.Term.field (Jvm.Term.string "QuarterWalksModel" (122 : Nat)) "java/lang/String" "value" "[B") "[B",
  Jvm.Cond.exactly (Jvm.Term.field (Jvm.Term.string "QuarterWalksModel" (124 : Nat)) "java/lang/String" "value" "[B") "[B",
  Jvm.Cond.exactly (Jvm.Term.field (Jvm.Term.string "QuarterWalksModel" (126 : Nat)) "java/lang/String" "value" "[B") "[B",
  Jvm.Cond.exactly (Jvm.Term.field (Jvm.Term.string "QuarterWalksModel" (128 : Nat)) "java/lang/String" "value" "[B") "[B",
  Jvm.Cond.exactly (Jvm.Term.field (Jvm.Term.string "QuarterWalksModel" (130 : Nat)) "java/lang/String" "value" "[B") "[B",
  Jvm.Cond.exactly (Jvm.Term.field (Jvm.Term.string "QuarterWalksModel" (132 : Nat)) "java/lang/String" "value" "[B") "[B",
  Jvm.Cond.exactly (Jvm.Term.field (Jvm.Term.string "QuarterWalksModel" (144 : Nat)) "java/lang/String" "value" "[B") "[B",
  Jvm.Cond.exactly (Jvm.Term.field (Jvm.Term.string "QuarterWalksModel" (420 : Nat)) "java/lang/String" "value" "[B") "[B",
  Jvm.Cond.exactly (Jvm.Term.field (Jvm.Term.string "QuarterWalksModel" (432 : Nat)) "java/lang/String" "value" "[B") "[B"]
theorem flatN_eq : flatC narrow_1 = flatL := by decide +kernel
theorem f1_in {c : Cond} (h : c ∈ flatL) : c ∈ flat1 := (List.mem_append_right (flatC given_1) (by rw [flatN_eq]; exact h) : c ∈ flatC given_1 ++ flatC narrow_1)
theorem f1_at {c : Cond} (k : Nat) (h : flatL[k]? = some c) : c ∈ flat1 := f1_in (List.mem_of_getElem? h)
theorem f1_ex : ∀ i, i < 12 → Cond.exactly (strT.getD i (.arg 0)) "java/lang/String" ∈ flat1 := fun i hi_ => f1_at (([378, 386, 396, 406, 418, 430, 444, 458, 474, 493, 510, 324] : List Nat).getD i 0) ((by decide +kernel : ∀ i, i < 12 → flatL[(([378, 386, 396, 406, 418, 430, 444, 458, 474, 493, 510, 324] : List Nat).getD i 0)]? = some (Cond.exactly (strT.getD i (.arg 0)) "java/lang/String")) i hi_)
theorem f1_co : ∀ i, i < 12 → Cond.eq (.field (strT.getD i (.arg 0)) "java/lang/String" "coder" "B") (.int 0) ∈ flat1 := fun i hi_ => f1_at (([379, 387, 397, 407, 419, 431, 445, 459, 475, 494, 511, 325] : List Nat).getD i 0) ((by decide +kernel : ∀ i, i < 12 → flatL[(([379, 387, 397, 407, 419, 431, 445, 459, 475, 494, 511, 325] : List Nat).getD i 0)]? = some (Cond.eq (.field (strT.getD i (.arg 0)) "java/lang/String" "coder" "B") (.int 0))) i hi_)
theorem f1_ar : ∀ i, i < 12 → Cond.arrayOf (.field (strT.getD i (.arg 0)) "java/lang/String" "value" "[B") .byte ∈ flat1 := fun i hi_ => f1_at (([380, 388, 398, 408, 420, 432, 446, 460, 476, 495, 512, 326] : List Nat).getD i 0) ((by decide +kernel : ∀ i, i < 12 → flatL[(([380, 388, 398, 408, 420, 432, 446, 460, 476, 495, 512, 326] : List Nat).getD i 0)]? = some (Cond.arrayOf (.field (strT.getD i (.arg 0)) "java/lang/String" "value" "[B") .byte)) i hi_)
theorem f1_le : ∀ i, i < 12 → Cond.eq (.length (.field (strT.getD i (.arg 0)) "java/lang/String" "value" "[B")) (.int (Int32.ofNat (str_len.getD i 0))) ∈ flat1 := fun i hi_ => f1_at (([381, 389, 399, 409, 421, 433, 447, 461, 477, 496, 513, 327] : List Nat).getD i 0) ((by decide +kernel : ∀ i, i < 12 → flatL[(([381, 389, 399, 409, 421, 433, 447, 461, 477, 496, 513, 327] : List Nat).getD i 0)]? = some (Cond.eq (.length (.field (strT.getD i (.arg 0)) "java/lang/String" "value" "[B")) (.int (Int32.ofNat (str_len.getD i 0))))) i hi_)
theorem f1_el : ∀ i, i < 12 → ∀ j, j < str_len.getD i 0 → Cond.eq (.elem (.field (strT.getD i (.arg 0)) "java/lang/String" "value" "[B") (.int (Int32.ofNat j))) (.int ((str_byt.getD i []).getD j 0)) ∈ flat1 := fun i hi_ j hj_ => f1_at ((([382, 390, 400, 410, 422, 434, 448, 462, 478, 497, 514, 328] : List Nat).getD i 0) + j) ((by decide +kernel : ∀ i, i < 12 → ∀ j, j < str_len.getD i 0 → flatL[((([382, 390, 400, 410, 422, 434, 448, 462, 478, 497, 514, 328] : List Nat).getD i 0) + j)]? = some (Cond.eq (.elem (.field (strT.getD i (.arg 0)) "java/lang/String" "value" "[B") (.int (Int32.ofNat j))) (.int ((str_byt.getD i []).getD j 0)))) i hi_ j hj_)
theorem f1_n_0_1 : Cond.not (Cond.eq (.string "QuarterWalksModel" 114) (.string "QuarterWalksModel" 120)) ∈ flat1 := f1_at 395 (by decide +kernel)
theorem f1_n_0_2 : Cond.not (Cond.eq (.string "QuarterWalksModel" 114) (.string "QuarterWalksModel" 122)) ∈ flat1 := f1_at 404 (by decide +kernel)
theorem f1_n_0_3 : Cond.not (Cond.eq (.string "QuarterWalksModel" 114) (.string "QuarterWalksModel" 124)) ∈ flat1 := f1_at 415 (by decide +kernel)
theorem f1_n_0_4 : Cond.not (Cond.eq (.string "QuarterWalksModel" 114) (.string "QuarterWalksModel" 126)) ∈ flat1 := f1_at 426 (by decide +kernel)
theorem f1_n_0_5 : Cond.not (Cond.eq (.string "QuarterWalksModel" 114) (.string "QuarterWalksModel" 128)) ∈ flat1 := f1_at 439 (by decide +kernel)
theorem f1_n_0_6 : Cond.not (Cond.eq (.string "QuarterWalksModel" 114) (.string "QuarterWalksModel" 130)) ∈ flat1 := f1_at 452 (by decide +kernel)
theorem f1_n_0_7 : Cond.not (Cond.eq (.string "QuarterWalksModel" 114) (.string "QuarterWalksModel" 132)) ∈ flat1 := f1_at 467 (by decide +kernel)
theorem f1_n_0_8 : Cond.not (Cond.eq (.string "QuarterWalksModel" 114) (.string "QuarterWalksModel" 144)) ∈ flat1 := f1_at 485 (by decide +kernel)
theorem f1_n_0_9 : Cond.not (Cond.eq (.string "QuarterWalksModel" 114) (.string "QuarterWalksModel" 420)) ∈ flat1 := f1_at 501 (by decide +kernel)
theorem f1_n_0_10 : Cond.not (Cond.eq (.string "QuarterWalksModel" 114) (.string "QuarterWalksModel" 432)) ∈ flat1 := f1_at 524 (by decide +kernel)
theorem f1_n_11_0 : Cond.not (Cond.eq (.string "QuarterWalks$Tape" 82) (.string "QuarterWalksModel" 114)) ∈ flat1 := f1_at 383 (by decide +kernel)
theorem f1_n_1_2 : Cond.not (Cond.eq (.string "QuarterWalksModel" 120) (.string "QuarterWalksModel" 122)) ∈ flat1 := f1_at 405 (by decide +kernel)
theorem f1_n_1_3 : Cond.not (Cond.eq (.string "QuarterWalksModel" 120) (.string "QuarterWalksModel" 124)) ∈ flat1 := f1_at 416 (by decide +kernel)
theorem f1_n_1_4 : Cond.not (Cond.eq (.string "QuarterWalksModel" 120) (.string "QuarterWalksModel" 126)) ∈ flat1 := f1_at 427 (by decide +kernel)
theorem f1_n_1_5 : Cond.not (Cond.eq (.string "QuarterWalksModel" 120) (.string "QuarterWalksModel" 128)) ∈ flat1 := f1_at 440 (by decide +kernel)
theorem f1_n_1_6 : Cond.not (Cond.eq (.string "QuarterWalksModel" 120) (.string "QuarterWalksModel" 130)) ∈ flat1 := f1_at 453 (by decide +kernel)
theorem f1_n_1_7 : Cond.not (Cond.eq (.string "QuarterWalksModel" 120) (.string "QuarterWalksModel" 132)) ∈ flat1 := f1_at 468 (by decide +kernel)
theorem f1_n_1_8 : Cond.not (Cond.eq (.string "QuarterWalksModel" 120) (.string "QuarterWalksModel" 144)) ∈ flat1 := f1_at 486 (by decide +kernel)
theorem f1_n_1_9 : Cond.not (Cond.eq (.string "QuarterWalksModel" 120) (.string "QuarterWalksModel" 420)) ∈ flat1 := f1_at 502 (by decide +kernel)
theorem f1_n_1_10 : Cond.not (Cond.eq (.string "QuarterWalksModel" 120) (.string "QuarterWalksModel" 432)) ∈ flat1 := f1_at 525 (by decide +kernel)
theorem f1_n_11_1 : Cond.not (Cond.eq (.string "QuarterWalks$Tape" 82) (.string "QuarterWalksModel" 120)) ∈ flat1 := f1_at 392 (by decide +kernel)
theorem f1_n_2_3 : Cond.not (Cond.eq (.string "QuarterWalksModel" 122) (.string "QuarterWalksModel" 124)) ∈ flat1 := f1_at 417 (by decide +kernel)
theorem f1_n_2_4 : Cond.not (Cond.eq (.string "QuarterWalksModel" 122) (.string "QuarterWalksModel" 126)) ∈ flat1 := f1_at 428 (by decide +kernel)
theorem f1_n_2_5 : Cond.not (Cond.eq (.string "QuarterWalksModel" 122) (.string "QuarterWalksModel" 128)) ∈ flat1 := f1_at 441 (by decide +kernel)
theorem f1_n_2_6 : Cond.not (Cond.eq (.string "QuarterWalksModel" 122) (.string "QuarterWalksModel" 130)) ∈ flat1 := f1_at 454 (by decide +kernel)
theorem f1_n_2_7 : Cond.not (Cond.eq (.string "QuarterWalksModel" 122) (.string "QuarterWalksModel" 132)) ∈ flat1 := f1_at 469 (by decide +kernel)
theorem f1_n_2_8 : Cond.not (Cond.eq (.string "QuarterWalksModel" 122) (.string "QuarterWalksModel" 144)) ∈ flat1 := f1_at 487 (by decide +kernel)
theorem f1_n_2_9 : Cond.not (Cond.eq (.string "QuarterWalksModel" 122) (.string "QuarterWalksModel" 420)) ∈ flat1 := f1_at 503 (by decide +kernel)
theorem f1_n_2_10 : Cond.not (Cond.eq (.string "QuarterWalksModel" 122) (.string "QuarterWalksModel" 432)) ∈ flat1 := f1_at 526 (by decide +kernel)
theorem f1_n_11_2 : Cond.not (Cond.eq (.string "QuarterWalks$Tape" 82) (.string "QuarterWalksModel" 122)) ∈ flat1 := f1_at 401 (by decide +kernel)
theorem f1_n_3_4 : Cond.not (Cond.eq (.string "QuarterWalksModel" 124) (.string "QuarterWalksModel" 126)) ∈ flat1 := f1_at 429 (by decide +kernel)
theorem f1_n_3_5 : Cond.not (Cond.eq (.string "QuarterWalksModel" 124) (.string "QuarterWalksModel" 128)) ∈ flat1 := f1_at 442 (by decide +kernel)
theorem f1_n_3_6 : Cond.not (Cond.eq (.string "QuarterWalksModel" 124) (.string "QuarterWalksModel" 130)) ∈ flat1 := f1_at 455 (by decide +kernel)
theorem f1_n_3_7 : Cond.not (Cond.eq (.string "QuarterWalksModel" 124) (.string "QuarterWalksModel" 132)) ∈ flat1 := f1_at 470 (by decide +kernel)
theorem f1_n_3_8 : Cond.not (Cond.eq (.string "QuarterWalksModel" 124) (.string "QuarterWalksModel" 144)) ∈ flat1 := f1_at 488 (by decide +kernel)
theorem f1_n_3_9 : Cond.not (Cond.eq (.string "QuarterWalksModel" 124) (.string "QuarterWalksModel" 420)) ∈ flat1 := f1_at 504 (by decide +kernel)
theorem f1_n_3_10 : Cond.not (Cond.eq (.string "QuarterWalksModel" 124) (.string "QuarterWalksModel" 432)) ∈ flat1 := f1_at 527 (by decide +kernel)
theorem f1_n_11_3 : Cond.not (Cond.eq (.string "QuarterWalks$Tape" 82) (.string "QuarterWalksModel" 124)) ∈ flat1 := f1_at 412 (by decide +kernel)
theorem f1_n_4_5 : Cond.not (Cond.eq (.string "QuarterWalksModel" 126) (.string "QuarterWalksModel" 128)) ∈ flat1 := f1_at 443 (by decide +kernel)
theorem f1_n_4_6 : Cond.not (Cond.eq (.string "QuarterWalksModel" 126) (.string "QuarterWalksModel" 130)) ∈ flat1 := f1_at 456 (by decide +kernel)
theorem f1_n_4_7 : Cond.not (Cond.eq (.string "QuarterWalksModel" 126) (.string "QuarterWalksModel" 132)) ∈ flat1 := f1_at 471 (by decide +kernel)
theorem f1_n_4_8 : Cond.not (Cond.eq (.string "QuarterWalksModel" 126) (.string "QuarterWalksModel" 144)) ∈ flat1 := f1_at 489 (by decide +kernel)
theorem f1_n_4_9 : Cond.not (Cond.eq (.string "QuarterWalksModel" 126) (.string "QuarterWalksModel" 420)) ∈ flat1 := f1_at 505 (by decide +kernel)
theorem f1_n_4_10 : Cond.not (Cond.eq (.string "QuarterWalksModel" 126) (.string "QuarterWalksModel" 432)) ∈ flat1 := f1_at 528 (by decide +kernel)
theorem f1_n_11_4 : Cond.not (Cond.eq (.string "QuarterWalks$Tape" 82) (.string "QuarterWalksModel" 126)) ∈ flat1 := f1_at 423 (by decide +kernel)
theorem f1_n_5_6 : Cond.not (Cond.eq (.string "QuarterWalksModel" 128) (.string "QuarterWalksModel" 130)) ∈ flat1 := f1_at 457 (by decide +kernel)
theorem f1_n_5_7 : Cond.not (Cond.eq (.string "QuarterWalksModel" 128) (.string "QuarterWalksModel" 132)) ∈ flat1 := f1_at 472 (by decide +kernel)
theorem f1_n_5_8 : Cond.not (Cond.eq (.string "QuarterWalksModel" 128) (.string "QuarterWalksModel" 144)) ∈ flat1 := f1_at 490 (by decide +kernel)
theorem f1_n_5_9 : Cond.not (Cond.eq (.string "QuarterWalksModel" 128) (.string "QuarterWalksModel" 420)) ∈ flat1 := f1_at 506 (by decide +kernel)
theorem f1_n_5_10 : Cond.not (Cond.eq (.string "QuarterWalksModel" 128) (.string "QuarterWalksModel" 432)) ∈ flat1 := f1_at 529 (by decide +kernel)
theorem f1_n_11_5 : Cond.not (Cond.eq (.string "QuarterWalks$Tape" 82) (.string "QuarterWalksModel" 128)) ∈ flat1 := f1_at 436 (by decide +kernel)
theorem f1_n_6_7 : Cond.not (Cond.eq (.string "QuarterWalksModel" 130) (.string "QuarterWalksModel" 132)) ∈ flat1 := f1_at 473 (by decide +kernel)
theorem f1_n_6_8 : Cond.not (Cond.eq (.string "QuarterWalksModel" 130) (.string "QuarterWalksModel" 144)) ∈ flat1 := f1_at 491 (by decide +kernel)
theorem f1_n_6_9 : Cond.not (Cond.eq (.string "QuarterWalksModel" 130) (.string "QuarterWalksModel" 420)) ∈ flat1 := f1_at 507 (by decide +kernel)
theorem f1_n_6_10 : Cond.not (Cond.eq (.string "QuarterWalksModel" 130) (.string "QuarterWalksModel" 432)) ∈ flat1 := f1_at 530 (by decide +kernel)
theorem f1_n_11_6 : Cond.not (Cond.eq (.string "QuarterWalks$Tape" 82) (.string "QuarterWalksModel" 130)) ∈ flat1 := f1_at 449 (by decide +kernel)
theorem f1_n_7_8 : Cond.not (Cond.eq (.string "QuarterWalksModel" 132) (.string "QuarterWalksModel" 144)) ∈ flat1 := f1_at 492 (by decide +kernel)
theorem f1_n_7_9 : Cond.not (Cond.eq (.string "QuarterWalksModel" 132) (.string "QuarterWalksModel" 420)) ∈ flat1 := f1_at 508 (by decide +kernel)
theorem f1_n_7_10 : Cond.not (Cond.eq (.string "QuarterWalksModel" 132) (.string "QuarterWalksModel" 432)) ∈ flat1 := f1_at 531 (by decide +kernel)
theorem f1_n_11_7 : Cond.not (Cond.eq (.string "QuarterWalks$Tape" 82) (.string "QuarterWalksModel" 132)) ∈ flat1 := f1_at 464 (by decide +kernel)
theorem f1_n_8_9 : Cond.not (Cond.eq (.string "QuarterWalksModel" 144) (.string "QuarterWalksModel" 420)) ∈ flat1 := f1_at 509 (by decide +kernel)
theorem f1_n_8_10 : Cond.not (Cond.eq (.string "QuarterWalksModel" 144) (.string "QuarterWalksModel" 432)) ∈ flat1 := f1_at 532 (by decide +kernel)
theorem f1_n_11_8 : Cond.not (Cond.eq (.string "QuarterWalks$Tape" 82) (.string "QuarterWalksModel" 144)) ∈ flat1 := f1_at 482 (by decide +kernel)
theorem f1_n_9_10 : Cond.not (Cond.eq (.string "QuarterWalksModel" 420) (.string "QuarterWalksModel" 432)) ∈ flat1 := f1_at 533 (by decide +kernel)
theorem f1_n_11_9 : Cond.not (Cond.eq (.string "QuarterWalks$Tape" 82) (.string "QuarterWalksModel" 420)) ∈ flat1 := f1_at 498 (by decide +kernel)
theorem f1_n_11_10 : Cond.not (Cond.eq (.string "QuarterWalks$Tape" 82) (.string "QuarterWalksModel" 432)) ∈ flat1 := f1_at 521 (by decide +kernel)
theorem f1_ne : ∀ i, i < 12 → ∀ j, j < 12 → i ≠ j → (Cond.not (Cond.eq (strT.getD i (.arg 0)) (strT.getD j (.arg 0))) ∈ flat1 ∨ Cond.not (Cond.eq (strT.getD j (.arg 0)) (strT.getD i (.arg 0))) ∈ flat1)
  | 0, _, 0, _, h => absurd rfl h
  | 0, _, 1, _, _ => Or.inl f1_n_0_1
  | 0, _, 2, _, _ => Or.inl f1_n_0_2
  | 0, _, 3, _, _ => Or.inl f1_n_0_3
  | 0, _, 4, _, _ => Or.inl f1_n_0_4
  | 0, _, 5, _, _ => Or.inl f1_n_0_5
  | 0, _, 6, _, _ => Or.inl f1_n_0_6
  | 0, _, 7, _, _ => Or.inl f1_n_0_7
  | 0, _, 8, _, _ => Or.inl f1_n_0_8
  | 0, _, 9, _, _ => Or.inl f1_n_0_9
  | 0, _, 10, _, _ => Or.inl f1_n_0_10
  | 0, _, 11, _, _ => Or.inr f1_n_11_0
  | 0, _, j + 12, h, _ => absurd h (by omega)
  | 1, _, 0, _, _ => Or.inr f1_n_0_1
  | 1, _, 1, _, h => absurd rfl h
  | 1, _, 2, _, _ => Or.inl f1_n_1_2
  | 1, _, 3, _, _ => Or.inl f1_n_1_3
  | 1, _, 4, _, _ => Or.inl f1_n_1_4
  | 1, _, 5, _, _ => Or.inl f1_n_1_5
  | 1, _, 6, _, _ => Or.inl f1_n_1_6
  | 1, _, 7, _, _ => Or.inl f1_n_1_7
  | 1, _, 8, _, _ => Or.inl f1_n_1_8
  | 1, _, 9, _, _ => Or.inl f1_n_1_9
  | 1, _, 10, _, _ => Or.inl f1_n_1_10
  | 1, _, 11, _, _ => Or.inr f1_n_11_1
  | 1, _, j + 12, h, _ => absurd h (by omega)
  | 2, _, 0, _, _ => Or.inr f1_n_0_2
  | 2, _, 1, _, _ => Or.inr f1_n_1_2
  | 2, _, 2, _, h => absurd rfl h
  | 2, _, 3, _, _ => Or.inl f1_n_2_3
  | 2, _, 4, _, _ => Or.inl f1_n_2_4
  | 2, _, 5, _, _ => Or.inl f1_n_2_5
  | 2, _, 6, _, _ => Or.inl f1_n_2_6
  | 2, _, 7, _, _ => Or.inl f1_n_2_7
  | 2, _, 8, _, _ => Or.inl f1_n_2_8
  | 2, _, 9, _, _ => Or.inl f1_n_2_9
  | 2, _, 10, _, _ => Or.inl f1_n_2_10
  | 2, _, 11, _, _ => Or.inr f1_n_11_2
  | 2, _, j + 12, h, _ => absurd h (by omega)
  | 3, _, 0, _, _ => Or.inr f1_n_0_3
  | 3, _, 1, _, _ => Or.inr f1_n_1_3
  | 3, _, 2, _, _ => Or.inr f1_n_2_3
  | 3, _, 3, _, h => absurd rfl h
  | 3, _, 4, _, _ => Or.inl f1_n_3_4
  | 3, _, 5, _, _ => Or.inl f1_n_3_5
  | 3, _, 6, _, _ => Or.inl f1_n_3_6
  | 3, _, 7, _, _ => Or.inl f1_n_3_7
  | 3, _, 8, _, _ => Or.inl f1_n_3_8
  | 3, _, 9, _, _ => Or.inl f1_n_3_9
  | 3, _, 10, _, _ => Or.inl f1_n_3_10
  | 3, _, 11, _, _ => Or.inr f1_n_11_3
  | 3, _, j + 12, h, _ => absurd h (by omega)
  | 4, _, 0, _, _ => Or.inr f1_n_0_4
  | 4, _, 1, _, _ => Or.inr f1_n_1_4
  | 4, _, 2, _, _ => Or.inr f1_n_2_4
  | 4, _, 3, _, _ => Or.inr f1_n_3_4
  | 4, _, 4, _, h => absurd rfl h
  | 4, _, 5, _, _ => Or.inl f1_n_4_5
  | 4, _, 6, _, _ => Or.inl f1_n_4_6
  | 4, _, 7, _, _ => Or.inl f1_n_4_7
  | 4, _, 8, _, _ => Or.inl f1_n_4_8
  | 4, _, 9, _, _ => Or.inl f1_n_4_9
  | 4, _, 10, _, _ => Or.inl f1_n_4_10
  | 4, _, 11, _, _ => Or.inr f1_n_11_4
  | 4, _, j + 12, h, _ => absurd h (by omega)
  | 5, _, 0, _, _ => Or.inr f1_n_0_5
  | 5, _, 1, _, _ => Or.inr f1_n_1_5
  | 5, _, 2, _, _ => Or.inr f1_n_2_5
  | 5, _, 3, _, _ => Or.inr f1_n_3_5
  | 5, _, 4, _, _ => Or.inr f1_n_4_5
  | 5, _, 5, _, h => absurd rfl h
  | 5, _, 6, _, _ => Or.inl f1_n_5_6
  | 5, _, 7, _, _ => Or.inl f1_n_5_7
  | 5, _, 8, _, _ => Or.inl f1_n_5_8
  | 5, _, 9, _, _ => Or.inl f1_n_5_9
  | 5, _, 10, _, _ => Or.inl f1_n_5_10
  | 5, _, 11, _, _ => Or.inr f1_n_11_5
  | 5, _, j + 12, h, _ => absurd h (by omega)
  | 6, _, 0, _, _ => Or.inr f1_n_0_6
  | 6, _, 1, _, _ => Or.inr f1_n_1_6
  | 6, _, 2, _, _ => Or.inr f1_n_2_6
  | 6, _, 3, _, _ => Or.inr f1_n_3_6
  | 6, _, 4, _, _ => Or.inr f1_n_4_6
  | 6, _, 5, _, _ => Or.inr f1_n_5_6
  | 6, _, 6, _, h => absurd rfl h
  | 6, _, 7, _, _ => Or.inl f1_n_6_7
  | 6, _, 8, _, _ => Or.inl f1_n_6_8
  | 6, _, 9, _, _ => Or.inl f1_n_6_9
  | 6, _, 10, _, _ => Or.inl f1_n_6_10
  | 6, _, 11, _, _ => Or.inr f1_n_11_6
  | 6, _, j + 12, h, _ => absurd h (by omega)
  | 7, _, 0, _, _ => Or.inr f1_n_0_7
  | 7, _, 1, _, _ => Or.inr f1_n_1_7
  | 7, _, 2, _, _ => Or.inr f1_n_2_7
  | 7, _, 3, _, _ => Or.inr f1_n_3_7
  | 7, _, 4, _, _ => Or.inr f1_n_4_7
  | 7, _, 5, _, _ => Or.inr f1_n_5_7
  | 7, _, 6, _, _ => Or.inr f1_n_6_7
  | 7, _, 7, _, h => absurd rfl h
  | 7, _, 8, _, _ => Or.inl f1_n_7_8
  | 7, _, 9, _, _ => Or.inl f1_n_7_9
  | 7, _, 10, _, _ => Or.inl f1_n_7_10
  | 7, _, 11, _, _ => Or.inr f1_n_11_7
  | 7, _, j + 12, h, _ => absurd h (by omega)
  | 8, _, 0, _, _ => Or.inr f1_n_0_8
  | 8, _, 1, _, _ => Or.inr f1_n_1_8
  | 8, _, 2, _, _ => Or.inr f1_n_2_8
  | 8, _, 3, _, _ => Or.inr f1_n_3_8
  | 8, _, 4, _, _ => Or.inr f1_n_4_8
  | 8, _, 5, _, _ => Or.inr f1_n_5_8
  | 8, _, 6, _, _ => Or.inr f1_n_6_8
  | 8, _, 7, _, _ => Or.inr f1_n_7_8
  | 8, _, 8, _, h => absurd rfl h
  | 8, _, 9, _, _ => Or.inl f1_n_8_9
  | 8, _, 10, _, _ => Or.inl f1_n_8_10
  | 8, _, 11, _, _ => Or.inr f1_n_11_8
  | 8, _, j + 12, h, _ => absurd h (by omega)
  | 9, _, 0, _, _ => Or.inr f1_n_0_9
  | 9, _, 1, _, _ => Or.inr f1_n_1_9
  | 9, _, 2, _, _ => Or.inr f1_n_2_9
  | 9, _, 3, _, _ => Or.inr f1_n_3_9
  | 9, _, 4, _, _ => Or.inr f1_n_4_9
  | 9, _, 5, _, _ => Or.inr f1_n_5_9
  | 9, _, 6, _, _ => Or.inr f1_n_6_9
  | 9, _, 7, _, _ => Or.inr f1_n_7_9
  | 9, _, 8, _, _ => Or.inr f1_n_8_9
  | 9, _, 9, _, h => absurd rfl h
  | 9, _, 10, _, _ => Or.inl f1_n_9_10
  | 9, _, 11, _, _ => Or.inr f1_n_11_9
  | 9, _, j + 12, h, _ => absurd h (by omega)
  | 10, _, 0, _, _ => Or.inr f1_n_0_10
  | 10, _, 1, _, _ => Or.inr f1_n_1_10
  | 10, _, 2, _, _ => Or.inr f1_n_2_10
  | 10, _, 3, _, _ => Or.inr f1_n_3_10
  | 10, _, 4, _, _ => Or.inr f1_n_4_10
  | 10, _, 5, _, _ => Or.inr f1_n_5_10
  | 10, _, 6, _, _ => Or.inr f1_n_6_10
  | 10, _, 7, _, _ => Or.inr f1_n_7_10
  | 10, _, 8, _, _ => Or.inr f1_n_8_10
  | 10, _, 9, _, _ => Or.inr f1_n_9_10
  | 10, _, 10, _, h => absurd rfl h
  | 10, _, 11, _, _ => Or.inr f1_n_11_10
  | 10, _, j + 12, h, _ => absurd h (by omega)
  | 11, _, 0, _, _ => Or.inl f1_n_11_0
  | 11, _, 1, _, _ => Or.inl f1_n_11_1
  | 11, _, 2, _, _ => Or.inl f1_n_11_2
  | 11, _, 3, _, _ => Or.inl f1_n_11_3
  | 11, _, 4, _, _ => Or.inl f1_n_11_4
  | 11, _, 5, _, _ => Or.inl f1_n_11_5
  | 11, _, 6, _, _ => Or.inl f1_n_11_6
  | 11, _, 7, _, _ => Or.inl f1_n_11_7
  | 11, _, 8, _, _ => Or.inl f1_n_11_8
  | 11, _, 9, _, _ => Or.inl f1_n_11_9
  | 11, _, 10, _, _ => Or.inl f1_n_11_10
  | 11, _, 11, _, h => absurd rfl h
  | 11, _, j + 12, h, _ => absurd h (by omega)
  | i + 12, h, _, _, _ => absurd h (by omega)

theorem eq_ref {args : Array Value} {s : State} {a b : Term} {r : Nat} (h : (Cond.eq a b).before args s = true) (ha : a.eval args s none [] s = some (.ref r)) : b.eval args s none [] s = some (.ref r) := by
  cases hb : b.eval args s none [] s with
  | none => simp [Cond.before, Cond.holds, Cond.value, ha, hb] at h
  | some w =>
    simp only [Cond.before, Cond.holds, Cond.value, ha, hb] at h
    cases w <;> simp_all
theorem eq_fer {args : Array Value} {s : State} {a b : Term} {r : Nat} (h : (Cond.eq a b).before args s = true) (hb : b.eval args s none [] s = some (.ref r)) : a.eval args s none [] s = some (.ref r) := by
  cases ha : a.eval args s none [] s with
  | none => simp [Cond.before, Cond.holds, Cond.value, ha, hb] at h
  | some w =>
    simp only [Cond.before, Cond.holds, Cond.value, ha, hb] at h
    cases w <;> simp_all
theorem f1_sa : ∀ i, i < 6 → Cond.arrayOf (.static "QuarterWalks" (st_names.getD i "") "[I") .int ∈ flat1 := fun i hi_ => f1_at (([30, 41, 8, 19, 52, 63] : List Nat).getD i 0) ((by decide +kernel : ∀ i, i < 6 → flatL[(([30, 41, 8, 19, 52, 63] : List Nat).getD i 0)]? = some (Cond.arrayOf (.static "QuarterWalks" (st_names.getD i "") "[I") .int)) i hi_)
theorem f1_sl : ∀ i, i < 6 → Cond.eq (.length (.static "QuarterWalks" (st_names.getD i "") "[I")) (.int (Int32.ofNat 8)) ∈ flat1 := fun i hi_ => f1_at (([31, 42, 9, 20, 53, 64] : List Nat).getD i 0) ((by decide +kernel : ∀ i, i < 6 → flatL[(([31, 42, 9, 20, 53, 64] : List Nat).getD i 0)]? = some (Cond.eq (.length (.static "QuarterWalks" (st_names.getD i "") "[I")) (.int (Int32.ofNat 8)))) i hi_)
theorem f1_se : ∀ i, i < 6 → ∀ j, j < 8 → Cond.eq (.elem (.static "QuarterWalks" (st_names.getD i "") "[I") (.int (Int32.ofNat j))) (.int (st_at i j)) ∈ flat1 := fun i hi_ j hj_ => f1_at ((([32, 43, 10, 21, 54, 65] : List Nat).getD i 0) + j) ((by decide +kernel : ∀ i, i < 6 → ∀ j, j < 8 → flatL[((([32, 43, 10, 21, 54, 65] : List Nat).getD i 0) + j)]? = some (Cond.eq (.elem (.static "QuarterWalks" (st_names.getD i "") "[I") (.int (Int32.ofNat j))) (.int (st_at i j)))) i hi_ j hj_)
theorem f1_sw : ∀ i, i < 6 → Cond.laysStatic "QuarterWalks" (st_names.getD i "") "[I" ∈ lw_tbl := by decide +kernel
theorem f1_de : ∀ j, j < 100 → Cond.eq (.elem (.static "java/lang/Integer" "DigitOnes" "[B") (.int (Int32.ofNat j))) (.int (dg1 j)) ∈ flat1 := fun j hj_ => f1_at (76 + j) ((by decide +kernel : ∀ j, j < 100 → flatL[(76 + j)]? = some (Cond.eq (.elem (.static "java/lang/Integer" "DigitOnes" "[B") (.int (Int32.ofNat j))) (.int (dg1 j)))) j hj_)
theorem f1_sel : ∀ y ∈ sel_l, Cond.privateMethod y ∈ lw_tbl ∧ Cond.instanceMethod y ∈ lw_tbl ∧ y.cls = "java/lang/AbstractStringBuilder" := by decide +kernel
theorem sel_hold {args : Array Value} {s : State} (hts : ∀ w ∈ lw_tbl, w.before args s = true) : ∀ y ∈ sel_l, (Cond.selects "java/lang/StringBuilder" y y).before args s = true := fun y hy => by
  obtain ⟨h1, h2, h3⟩ := f1_sel y hy
  exact selects_priv (z := ⟨"java/lang/AbstractStringBuilder", "isLatin1", "()Z"⟩) (by rw [h3]; decide) h3 (hts _ (List.mem_of_getElem? (i := 1135) (by decide +kernel))) (hts _ h1) (hts _ h2)
theorem ar_of {s : State} {args : Array Value} {ty : FieldType} (h : (Cond.arrayClass ty).before args s = true) : ∃ cA : ClassId, ArrOfT s cA ty ∧ s.vm.findClass ("[" ++ ty.toString) = some cA := by
  obtain ⟨cA, k, comp, h1, h2, h3⟩ := Cond.arrayClass_spec h
  exact ⟨cA, fun n z => ⟨fun k h => (by cases h), k, h2, comp, h3⟩, h1⟩
theorem aq_of {s : State} {args : Array Value} {C : String} (h : (Cond.arrayOver (.object C)).before args s = true) : ∃ cA : ClassId, ArrOfT s cA (.object C) ∧ va_RA s cA (.object C) := by
  obtain ⟨comp, cA, k, h1, h2, h3, h4, h5⟩ := Cond.arrayOver_spec h
  exact ⟨cA, fun n z => ⟨fun k h => (by cases h), k, h3, comp, h4⟩, k, comp, h3, h4, h1, h5⟩
theorem aa_of {s : State} {args : Array Value} {ty : FieldType} (h : (Cond.arrayOver (.array ty)).before args s = true) : ∃ cA : ClassId, ArrOfT s cA (.array ty) ∧ s.vm.findClass ("[" ++ (FieldType.array ty).toString) = some cA := by
  obtain ⟨comp, cA, k, h1, h3, h4, h5⟩ := Cond.arrayOver_specA h
  exact ⟨cA, fun n z => ⟨fun k h => (by cases h), k, h3, comp, h4⟩, h5⟩
set_option maxRecDepth 100000 in
set_option maxHeartbeats 4000000 in
theorem hE_start {s : State} {args : Array Value} (hts : ∀ w ∈ lw_tbl, w.before args s = true) (hgv : (Jvm.Cond.and given_1 narrow_1).before args s = true) : ∃ (D : va_G) (G : Nat → Nat), hE D G s.heap.size s s.heap := by
  have hfl : ∀ w ∈ flat1, w.before args s = true := flat_of_before _ hgv
  have hA' : ∀ a : Nat, a < s.heap.size → ¬ hA s.heap.size a := fun a h => Nat.not_le.mpr h
  obtain ⟨c0, iS0, hKn0⟩ := u_known (C := RJ4) (T := TJ4) (N := 4) (n := 4) hts (fun w h => wAll_tbl w (inA_J4 w h)) (hts _ (List.mem_of_getElem? (i := 348) (by decide +kernel)))
  obtain ⟨c1, iS1, hKn1⟩ := u_known (C := RX0) (T := TX0) (N := 6) (n := 6) hts (fun w h => wAll_tbl w (inA_X0 w h)) (hts _ (List.mem_of_getElem? (i := 163) (by decide +kernel)))
  obtain ⟨c2, iS2, hKn2⟩ := u_known (C := RX1) (T := TX1) (N := 4) (n := 4) hts (fun w h => wAll_tbl w (inA_X1 w h)) (hts _ (List.mem_of_getElem? (i := 213) (by decide +kernel)))
  obtain ⟨c3, iS3, hKn3⟩ := u_known (C := RX2) (T := TX2) (N := 11) (n := 11) hts (fun w h => wAll_tbl w (inA_X2 w h)) (hts _ (List.mem_of_getElem? (i := 207) (by decide +kernel)))
  obtain ⟨c4, iS4, hKn4⟩ := u_known (C := RX3) (T := TX3) (N := 4) (n := 4) hts (fun w h => wAll_tbl w (inA_X3 w h)) (hts _ (List.mem_of_getElem? (i := 328) (by decide +kernel)))
  obtain ⟨c5, iS5, hKn5⟩ := u_known (C := RX4) (T := TX4) (N := 4) (n := 4) hts (fun w h => wAll_tbl w (inA_X4 w h)) (hts _ (List.mem_of_getElem? (i := 307) (by decide +kernel)))
  obtain ⟨c6, iS6, hKn6⟩ := u_known (C := RX5) (T := TX5) (N := 2) (n := 2) hts (fun w h => wAll_tbl w (inA_X5 w h)) (hts _ (List.mem_of_getElem? (i := 169) (by decide +kernel)))
  obtain ⟨c7, iS7, hKn7⟩ := u_known (C := RX6) (T := TX6) (N := 4) (n := 4) hts (fun w h => wAll_tbl w (inA_X6 w h)) (hts _ (List.mem_of_getElem? (i := 532) (by decide +kernel)))
  obtain ⟨c8, iS8, hKn8⟩ := u_known (C := RX7) (T := TX7) (N := 7) (n := 7) hts (fun w h => wAll_tbl w (inA_X7 w h)) (hts _ (List.mem_of_getElem? (i := 133) (by decide +kernel)))
  obtain ⟨c9, iS9, hKn9⟩ := u_known (C := RX8) (T := TX8) (N := 2) (n := 2) hts (fun w h => wAll_tbl w (inA_X8 w h)) (hts _ (List.mem_of_getElem? (i := 292) (by decide +kernel)))
  obtain ⟨c10, iS10, hKn10⟩ := u_known (C := RX9) (T := TX9) (N := 4) (n := 4) hts (fun w h => wAll_tbl w (inA_X9 w h)) (hts _ (List.mem_of_getElem? (i := 271) (by decide +kernel)))
  obtain ⟨c11, iS11, hKn11⟩ := u_known (C := RX10) (T := TX10) (N := 10) (n := 10) hts (fun w h => wAll_tbl w (inA_X10 w h)) (hts _ (List.mem_of_getElem? (i := 125) (by decide +kernel)))
  obtain ⟨c12, iS12, hKn12⟩ := u_known (C := RX11) (T := TX11) (N := 32) (n := 32) hts (fun w h => wAll_tbl w (inA_X11 w h)) (hts _ (List.mem_of_getElem? (i := 1428) (by decide +kernel)))
  obtain ⟨y0, a0, b0'⟩ := ar_of (ty := .byte) (hts _ (List.mem_of_getElem? (i := 378) (by decide +kernel)))
  obtain ⟨y1, a1, b1⟩ := ar_of (ty := .int) (hts _ (List.mem_of_getElem? (i := 161) (by decide +kernel)))
  obtain ⟨y2, a2, b2⟩ := ar_of (ty := .long) (hts _ (List.mem_of_getElem? (i := 235) (by decide +kernel)))
  obtain ⟨y3, a3, b3⟩ := aq_of (C := "QuarterWalks$Shelf") (hts _ (List.mem_of_getElem? (i := 185) (by decide +kernel)))
  obtain ⟨y4, a4, b4⟩ := aq_of (C := "QuarterWalks$StepSet") (hts _ (List.mem_of_getElem? (i := 175) (by decide +kernel)))
  obtain ⟨y5, a5, b5⟩ := aa_of (ty := .int) (hts _ (List.mem_of_getElem? (i := 277) (by decide +kernel)))
  obtain ⟨y6, a6, b6⟩ := aa_of (ty := .long) (hts _ (List.mem_of_getElem? (i := 313) (by decide +kernel)))
  obtain ⟨adK, adV, hvk, hev⟩ := vk_Sof (args := args) (s := s) (N := 12) (tm := fun i => strT.getD i (.arg 0)) (len := str_len) (byt := str_byt) (A := hA s.heap.size) (by decide) (fun i hi => hfl _ (f1_ex i hi)) (fun i hi => hfl _ (f1_co i hi)) (fun i hi => hfl _ (f1_ar i hi)) (fun i hi => hfl _ (f1_le i hi)) (fun i hi j hj => hfl _ (f1_el i hi j hj)) (fun i j hi hj hij => (f1_ne i hi j hj hij).imp (fun h => hfl _ h) (fun h => hfl _ h)) hA'
  have hS0 : ∀ i : Nat, ∃ q : Nat, i < 6 → (Term.static "QuarterWalks" (st_names.getD i "") "[I").eval args s none [] s = some (.ref q) ∧ va_T .int q 8 (fun j => .int (st_at i j)) (hA s.heap.size) s s.heap := fun i => by
    by_cases hi : i < 6
    · obtain ⟨q, q1, q2⟩ := va_Tof (N := 8) (f := fun j => .int (st_at i j)) (A := hA s.heap.size) (by decide) (hfl _ (f1_sa i hi)) (va_eqt (hfl _ (f1_sl i hi))) (fun j hj => va_eqt (hfl _ (f1_se i hi j hj))) hA'
      exact ⟨q, fun _ => ⟨q1, q2⟩⟩
    · exact ⟨0, fun h => absurd h hi⟩
  obtain ⟨adS, hadS⟩ := Classical.axiomOfChoice hS0
  obtain ⟨adD, hD1, hD2⟩ := va_Tof (N := 100) (ty := .byte) (f := fun j => .int (dg1 j)) (A := hA s.heap.size) (by decide) (hfl (Cond.arrayOf (.static "java/lang/Integer" "DigitOnes" "[B") .byte) (List.mem_of_getElem? (i := 76) (by decide +kernel))) (va_eqt (z := Int32.ofNat 100) (hfl _ (f1_at 75 (by decide +kernel)))) (fun j hj => va_eqt (hfl _ (f1_de j hj))) hA'
  obtain ⟨G, g0, g1, g2, g3, g4, g5, g6, gK, gV, gS, gD⟩ : ∃ G : Nat → Nat, G 0 = y0 ∧ G 1 = y1 ∧ G 2 = y2 ∧ G 3 = y3 ∧ G 4 = y4 ∧ G 5 = y5 ∧ G 6 = y6 ∧ (∀ i, i < 12 → G (20 + i) = adK i) ∧ (∀ i, i < 12 → G (40 + i) = adV i) ∧ (∀ i, i < 6 → G (60 + i) = adS i) ∧ G 70 = adD := by
    refine ⟨fun k => if k = 0 then y0 else if k = 1 then y1 else if k = 2 then y2 else if k = 3 then y3 else if k = 4 then y4 else if k = 5 then y5 else if k = 6 then y6 else if k < 40 then adK (k - 20) else if k < 60 then adV (k - 40) else if k < 70 then adS (k - 60) else adD, rfl, rfl, rfl, rfl, rfl, rfl, rfl, fun i hi => ?_, fun i hi => ?_, fun i hi => ?_, rfl⟩
    · show (if 20 + i = 0 then y0 else _) = _
      rw [if_neg (by omega), if_neg (by omega), if_neg (by omega), if_neg (by omega), if_neg (by omega), if_neg (by omega), if_neg (by omega), if_pos (by omega)]
      congr 1; omega
    · show (if 40 + i = 0 then y0 else _) = _
      rw [if_neg (by omega), if_neg (by omega), if_neg (by omega), if_neg (by omega), if_neg (by omega), if_neg (by omega), if_neg (by omega), if_neg (by omega), if_pos (by omega)]
      congr 1; omega
    · show (if 60 + i = 0 then y0 else _) = _
      rw [if_neg (by omega), if_neg (by omega), if_neg (by omega), if_neg (by omega), if_neg (by omega), if_neg (by omega), if_neg (by omega), if_neg (by omega), if_neg (by omega), if_pos (by omega)]
      congr 1; omega
  subst g0; subst g1; subst g2; subst g3; subst g4; subst g5; subst g6
  refine ⟨(fun k => ([c0, c1, c2, c3, c4, c5, c6, c7, c8, c9, c10, c11, c12] : List ClassId).getD k 0, fun k => ([iS0, iS1, iS2, iS3, iS4, iS5, iS6, iS7, iS8, iS9, iS10, iS11, iS12] : List (Nat → Nat)).getD k (fun _ => 0)), G, ⟨?_, ?_⟩, ?_, List.forall_mem_cons.mpr ⟨va_Nw.of rfl (hts _ (List.mem_of_getElem? (i := 214) (by decide +kernel))), List.forall_mem_cons.mpr ⟨va_Nw.of rfl (hts _ (List.mem_of_getElem? (i := 447) (by decide +kernel))), List.forall_mem_cons.mpr ⟨va_Nw.of rfl (hts _ (List.mem_of_getElem? (i := 598) (by decide +kernel))), List.forall_mem_cons.mpr ⟨va_Nw.of rfl (hts _ (List.mem_of_getElem? (i := 740) (by decide +kernel))), List.forall_mem_cons.mpr ⟨va_Nw.of rfl (hts _ (List.mem_of_getElem? (i := 796) (by decide +kernel))), List.forall_mem_cons.mpr ⟨va_Nw.of rfl (hts _ (List.mem_of_getElem? (i := 806) (by decide +kernel))), List.forall_mem_cons.mpr ⟨va_Nw.of rfl (hts _ (List.mem_of_getElem? (i := 809) (by decide +kernel))), List.forall_mem_cons.mpr ⟨va_Nw.of rfl (hts _ (List.mem_of_getElem? (i := 884) (by decide +kernel))), List.forall_mem_cons.mpr ⟨va_Nw.of rfl (hts _ (List.mem_of_getElem? (i := 936) (by decide +kernel))), List.forall_mem_cons.mpr ⟨va_Nw.of rfl (hts _ (List.mem_of_getElem? (i := 950) (by decide +kernel))), List.forall_mem_cons.mpr ⟨va_Nw.of rfl (hts _ (List.mem_of_getElem? (i := 951) (by decide +kernel))), List.forall_mem_cons.mpr ⟨va_Nw.of rfl (hts _ (List.mem_of_getElem? (i := 952) (by decide +kernel))), List.forall_mem_cons.mpr ⟨va_Nw.of rfl (hts _ (List.mem_of_getElem? (i := 1033) (by decide +kernel))), List.forall_mem_cons.mpr ⟨va_Nw.of rfl (hts _ (List.mem_of_getElem? (i := 1042) (by decide +kernel))), List.forall_mem_cons.mpr ⟨va_Nw.of rfl (hts _ (List.mem_of_getElem? (i := 1043) (by decide +kernel))), fun _ h => absurd h List.not_mem_nil⟩⟩⟩⟩⟩⟩⟩⟩⟩⟩⟩⟩⟩⟩⟩, List.forall_mem_cons.mpr ⟨va_Nw.of rfl (hts _ (List.mem_of_getElem? (i := 683) (by decide +kernel))), List.forall_mem_cons.mpr ⟨va_Nw.of rfl (hts _ (List.mem_of_getElem? (i := 685) (by decide +kernel))), List.forall_mem_cons.mpr ⟨va_Nw.of rfl (hts _ (List.mem_of_getElem? (i := 878) (by decide +kernel))), List.forall_mem_cons.mpr ⟨va_Nw.of rfl (hts _ (List.mem_of_getElem? (i := 879) (by decide +kernel))), fun _ h => absurd h List.not_mem_nil⟩⟩⟩⟩, va_AO.of (hts _ (List.mem_of_getElem? (i := 185) (by decide +kernel))), va_AO.of (hts _ (List.mem_of_getElem? (i := 175) (by decide +kernel))), va_AOA.of (hts _ (List.mem_of_getElem? (i := 277) (by decide +kernel))), va_AOA.of (hts _ (List.mem_of_getElem? (i := 313) (by decide +kernel))), ?_, ?_, ?_, ?_, List.forall_mem_cons.mpr ⟨va_Nw.of rfl (hts _ (List.mem_of_getElem? (i := 1362) (by decide +kernel))), List.forall_mem_cons.mpr ⟨va_Nw.of rfl (hts _ (List.mem_of_getElem? (i := 545) (by decide +kernel))), List.forall_mem_cons.mpr ⟨va_Nw.of rfl (hts _ (List.mem_of_getElem? (i := 1130) (by decide +kernel))), fun _ h => absurd h List.not_mem_nil⟩⟩⟩, List.forall_mem_cons.mpr ⟨va_Nw.of rfl (hts _ (List.mem_of_getElem? (i := 1363) (by decide +kernel))), List.forall_mem_cons.mpr ⟨va_Nw.of rfl (hts _ (List.mem_of_getElem? (i := 1365) (by decide +kernel))), List.forall_mem_cons.mpr ⟨va_Nw.of rfl (hts _ (List.mem_of_getElem? (i := 1367) (by decide +kernel))), fun _ h => absurd h List.not_mem_nil⟩⟩⟩, ?_, ?_, ?_, fun y hy => va_Nw.of rfl (sel_hold hts y hy)⟩
  · intro k q hq
    match k, hq with
    | 0, hq => cases hq; exact hKn0
    | 1, hq => cases hq; exact hKn1
    | 2, hq => cases hq; exact hKn2
    | 3, hq => cases hq; exact hKn3
    | 4, hq => cases hq; exact hKn4
    | 5, hq => cases hq; exact hKn5
    | 6, hq => cases hq; exact hKn6
    | 7, hq => cases hq; exact hKn7
    | 8, hq => cases hq; exact hKn8
    | 9, hq => cases hq; exact hKn9
    | 10, hq => cases hq; exact hKn10
    | 11, hq => cases hq; exact hKn11
    | 12, hq => cases hq; exact hKn12
    | k + 13, hq => simp [vwCl] at hq
  · intro k q hq
    match k, hq with
    | 0, hq => cases hq; exact ⟨a0, b0'⟩
    | 1, hq => cases hq; exact ⟨a1, b1⟩
    | 2, hq => cases hq; exact ⟨a2, b2⟩
    | 3, hq => cases hq; exact ⟨a3, b3⟩
    | 4, hq => cases hq; exact ⟨a4, b4⟩
    | 5, hq => cases hq; exact ⟨a5, b5⟩
    | 6, hq => cases hq; exact ⟨a6, b6⟩
    | k + 7, hq => simp [hgy] at hq
  · exact va_Zof (hts _ (List.mem_of_getElem? (i := 357) (by decide +kernel))) (hts _ (List.mem_of_getElem? (i := 108) (by decide +kernel))) (va_eqi (hfl _ (f1_at 2 (by decide +kernel)))) hA'
  · exact List.forall_mem_cons.mpr ⟨vk_R.of (hts _ (List.mem_of_getElem? (i := 471) (by decide +kernel))) ((hev 11 (by decide)).trans (by rw [gK 11 (by decide)])), List.forall_mem_cons.mpr ⟨vk_R.of (hts _ (List.mem_of_getElem? (i := 1200) (by decide +kernel))) (eq_ref (hfl _ (f1_at 364 (by decide +kernel))) ((hev 11 (by decide)).trans (by rw [gK 11 (by decide)]))), List.forall_mem_cons.mpr ⟨vk_R.of (hts _ (List.mem_of_getElem? (i := 1236) (by decide +kernel))) (eq_fer (hfl _ (f1_at 523 (by decide +kernel))) ((hev 10 (by decide)).trans (by rw [gK 10 (by decide)]))), List.forall_mem_cons.mpr ⟨vk_R.of (hts _ (List.mem_of_getElem? (i := 1569) (by decide +kernel))) ((hev 0 (by decide)).trans (by rw [gK 0 (by decide)])), List.forall_mem_cons.mpr ⟨vk_R.of (hts _ (List.mem_of_getElem? (i := 1576) (by decide +kernel))) ((hev 1 (by decide)).trans (by rw [gK 1 (by decide)])), List.forall_mem_cons.mpr ⟨vk_R.of (hts _ (List.mem_of_getElem? (i := 1577) (by decide +kernel))) ((hev 2 (by decide)).trans (by rw [gK 2 (by decide)])), List.forall_mem_cons.mpr ⟨vk_R.of (hts _ (List.mem_of_getElem? (i := 1578) (by decide +kernel))) ((hev 3 (by decide)).trans (by rw [gK 3 (by decide)])), List.forall_mem_cons.mpr ⟨vk_R.of (hts _ (List.mem_of_getElem? (i := 1579) (by decide +kernel))) ((hev 4 (by decide)).trans (by rw [gK 4 (by decide)])), List.forall_mem_cons.mpr ⟨vk_R.of (hts _ (List.mem_of_getElem? (i := 1580) (by decide +kernel))) ((hev 5 (by decide)).trans (by rw [gK 5 (by decide)])), List.forall_mem_cons.mpr ⟨vk_R.of (hts _ (List.mem_of_getElem? (i := 1581) (by decide +kernel))) ((hev 6 (by decide)).trans (by rw [gK 6 (by decide)])), List.forall_mem_cons.mpr ⟨vk_R.of (hts _ (List.mem_of_getElem? (i := 1582) (by decide +kernel))) ((hev 7 (by decide)).trans (by rw [gK 7 (by decide)])), List.forall_mem_cons.mpr ⟨vk_R.of (hts _ (List.mem_of_getElem? (i := 1599) (by decide +kernel))) ((hev 8 (by decide)).trans (by rw [gK 8 (by decide)])), List.forall_mem_cons.mpr ⟨vk_R.of (hts _ (List.mem_of_getElem? (i := 2005) (by decide +kernel))) ((hev 9 (by decide)).trans (by rw [gK 9 (by decide)])), List.forall_mem_cons.mpr ⟨vk_R.of (hts _ (List.mem_of_getElem? (i := 2017) (by decide +kernel))) ((hev 10 (by decide)).trans (by rw [gK 10 (by decide)])), fun _ h => absurd h List.not_mem_nil⟩⟩⟩⟩⟩⟩⟩⟩⟩⟩⟩⟩⟩⟩
  · obtain ⟨v1, v2⟩ := hvk
    refine ⟨fun i hi => ?_, fun i j hi hj e => v2 i j hi hj ?_⟩
    · show va_O "java/lang/String" (G (20 + i)) _ _ _ ∧ va_OF "java/lang/String" "coder" "B" (.int 0) (G (20 + i)) _ _ _ ∧ va_OF "java/lang/String" "value" "[B" (.ref (G (40 + i))) (G (20 + i)) _ _ _ ∧ va_T .byte (G (40 + i)) _ _ _ _ _
      rw [gK i hi, gV i hi]; exact v1 i hi
    · have e' : G (20 + i) = G (20 + j) := e
      rw [gK i hi, gK j hj] at e'; exact e'
  · exact vx_Zqof (hts _ (List.mem_of_getElem? (i := 1387) (by decide +kernel))) (hts _ (List.mem_of_getElem? (i := 117) (by decide +kernel))) (hfl _ (f1_at 279 (by decide +kernel))) hA'
  · exact vx_Zqof (hts _ (List.mem_of_getElem? (i := 1389) (by decide +kernel))) (hts _ (List.mem_of_getElem? (i := 117) (by decide +kernel))) (hfl _ (f1_at 280 (by decide +kernel))) hA'
  · intro i hi
    rw [gS i hi]
    exact ⟨va_Zof (hts _ (f1_sw i hi)) (hts _ (List.mem_of_getElem? (i := 96) (by decide +kernel))) (hadS i hi).1 hA', (hadS i hi).2⟩
  · exact va_Zqof (hts _ (List.mem_of_getElem? (i := 488) (by decide +kernel))) (hts _ (List.mem_of_getElem? (i := 114) (by decide +kernel))) (hfl _ (f1_at 3 (by decide +kernel))) hA'
  · exact ⟨by rw [gD]; exact va_Zof (hts _ (List.mem_of_getElem? (i := 1216) (by decide +kernel))) (hts _ (List.mem_of_getElem? (i := 122) (by decide +kernel))) hD1 hA', by rw [gD]; exact hD2⟩
