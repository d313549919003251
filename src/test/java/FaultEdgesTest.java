/**
 * The sentences of section 3 that name an edge (but for 1 and 10), and which of two faults is met first, by promises
 * 5 and 6. A ^ stands ahead of the token where a fault is due.
 */
public final class FaultEdgesTest {
    private static final String FIELDS = "data T = C {p :: Int, q :: Int} | D {q :: Int, r :: Char} | E Int; data U = V {s :: Int}; ";

    /** "its HIGH is there already (Int, Char, Bool, or of data before)"; "a LOW of it for the second time". */
    private static void headsOfData() {
        for (String name : new String[] {"Int", "Char", "Bool"}) {
            Probe.fault(2, "data ^" + name + " = C");
            Probe.right("data T = " + name);
        }
        for (String name : new String[] {"Eq", "Ord", "Num", "False", "True", "C"}) {
            Probe.right("data " + name + " = C");
        }
        Probe.fault(2, "data T = C; data U = D; data ^T = E");
        Probe.right("data T a b c d e = C");
        Probe.fault(2, "data T a b c d ^a = C");
        Probe.fault(2, "data T a ^a a = C");
        Probe.right("data T a = C; data U a = D");
        Probe.fault(2, "data T = C {p :: Foo} | D {^p :: Int}; data T = E");
    }

    /** "a part's HIGH is there already (False, True, or of any data)". */
    private static void partsOfData() {
        Probe.fault(2, "data T = ^False");
        Probe.fault(2, "data T = C | ^True");
        Probe.fault(2, "data T = C | D | ^C");
        Probe.fault(2, "data T = C; data U = D | ^C");
        Probe.right("data T = T | U; data U = V");
        Probe.right("data T = Eq | Ord | Num | Int | Char | Bool");
    }

    /** "a field is there already (KNOWN, of data before, or in this part), or was told in another part .. with another type". */
    private static void fieldsOfData() {
        for (String name : new String[] {"eq", "less", "add", "mul", "error"}) {
            Probe.fault(2, "data T = C {a :: Int, ^" + name + " :: Int}");
        }
        Probe.fault(2, "data T = C {a :: Int, ^a :: Int}");
        Probe.fault(2, "data T = C {a :: Int}; data U = D {^a :: Int}");
        Probe.right("data T = C {a :: Int} | D {a :: Int} | E {b :: Char, a :: Int}");
        Probe.fault(2, "data T = C {a :: Int} | D {a :: Int} | E {b :: Char, ^a :: Char}");
        Probe.right("data T b = C {a :: (b, [Int] -> ())} | D {a :: ((b), ([Int]) -> ())}");
        Probe.fault(2, "data T b = C {a :: b -> b -> b} | D {^a :: (b -> b) -> b}");
        Probe.fault(2, "data T b c = C {a :: b} | D {^a :: c}");
        Probe.fault(2, "data T b = C {a :: (b, b)} | D {^a :: (b, b, b)}");
        Probe.fault(2, "data T b = C {a :: ()} | D {^a :: [b]}");
        Probe.right("data T a = C {a :: a}; f = a");
    }

    /** "when all heads are known (so behind all that, again one after the other, token by token)". */
    private static void typesOfData() {
        Probe.fault(2, "data T = C Foo; data ^T = D");
        Probe.fault(2, "data T = C Foo; data U = ^C");
        Probe.fault(2, "data T = C Int ^Foo");
        Probe.fault(2, "data T = C ^Foo Bar deriving (Num); data U = D Foo");
        Probe.fault(2, "data T = C deriving (^Num); data U = D Foo");
        Probe.right("data T = C U; data U = D T");
        Probe.fault(2, "data T = C ^U; data U a = D");
        Probe.fault(2, "data T = C (^U Int Int); data U a = D");
        Probe.right("data T = C (U Int); data U a = D");
        String five = "data T = C (U Int Int Int Int Int); data U a b c d e = D";
        Probe.right(five);
        Probe.fault(2, five.replace("U Int Int", "^U Int"));
        Probe.fault(2, five.replace("U Int", "^U Int Int"));
        Probe.fault(2, "data T = C (^Int Int)");
        Probe.fault(2, "data T a = C [^b]");
        Probe.fault(2, "data T a = C (a -> (^T, b))");
        Probe.fault(2, "data T a = C {p :: a -> ^b, q :: Foo}");
        Probe.fault(2, "data T = C ^a; data U a = D");
    }

    /** "behind deriving a HIGH that is neither Eq nor Ord, or comes twice, or Ord without Eq (at Ord)". */
    private static void deriving() {
        Probe.right("data T = C deriving (Eq)");
        Probe.right("data T = C deriving (Eq, Ord)");
        Probe.right("data T = C deriving (Ord, Eq)");
        Probe.fault(2, "data T = C deriving (^Ord)");
        Probe.fault(2, "data T = C deriving (^Num)");
        Probe.fault(2, "data T = C deriving (Eq, ^Num)");
        Probe.fault(2, "data T = C deriving (^T)");
        Probe.fault(2, "data T = C deriving (Eq, ^Eq)");
        Probe.fault(2, "data T = C deriving (Eq, Ord, ^Ord)");
        Probe.fault(2, "data T = C deriving (Ord, Eq, ^Ord)");
        Probe.fault(2, "data T = C deriving (^Ord, Ord)");
        Probe.fault(2, "data Eq = C deriving (Eq, ^C)");
    }

    /** "a LOW .. that is declared already, unless by the equation right ahead with as many apats, one at least". */
    private static void equationsRightAhead() {
        Probe.right("f x = 1; f x = 2; f x = 3");
        Probe.right("f x y = 1; f 1 _ = 2");
        Probe.fault(3, "f = 1; ^f = 2");
        Probe.fault(3, "f = 1; ^f x = 2");
        Probe.fault(3, "f x = 1; ^f = 2");
        Probe.fault(3, "f x = 1; ^f x y = 2");
        Probe.fault(3, "f x y = 1; ^f x = 2");
        Probe.fault(3, "f x = 1; f x = 2; ^f x y = 3");
        Probe.fault(3, "f x = 1; g = 2; ^f x = 3");
        Probe.fault(3, "f x = 1; g x = 2; ^f x = 3; g x = 4");
        Probe.fault(3, "f x = 1; [] = []; ^f x = 3");
        Probe.fault(3, "f x = 1; f :: a -> Int; ^f x = 2");
        Probe.fault(3, "f x = 1; data T = C; ^f x = 2");
        Probe.fault(3, "(f, g) = 1; ^f x = 2");
        Probe.fault(3, "f x = 1; (g, ^f) = 2");
        Probe.fault(3, "(f, ^f) = 1");
        Probe.fault(3, "(f, g) = 1; [h, (^g)] = 2");
        Probe.right("h = let {f x = 1; f x = 2} in f");
        Probe.fault(3, "h = let {f x = 1; ^f x y = 2} in f");
        Probe.fault(3, "h = let {f = 1; ^f = 2} in f");
        Probe.fault(3, "h = let {(f, [^f]) = 1} in f");
        Probe.right("f = let {f = let {f = 'c'} in f} in f");
    }

    /** "a LOW that is given for the second time"; "of all given ones: one that is not declared there, or in a pat". */
    private static void givenTwiceOrNever() {
        Probe.fault(3, "f :: Int; ^f :: Int; f = 1");
        Probe.fault(3, "f :: Int; f = 1; ^f :: Int");
        Probe.fault(3, "f :: Int; g :: Int; ^f :: Int; f = 1");
        Probe.right("f = 1; f :: Int");
        Probe.fault(3, "^f :: Int");
        Probe.fault(3, "^f :: Int; g = 1");
        Probe.fault(3, "g = 1; ^f :: Int; h :: Int");
        Probe.fault(3, "f :: Int; f = 1; ^g :: Int; h :: Int; h = 2");
        Probe.fault(3, "^f :: Int; (f, g) = 1");
        Probe.fault(3, "(f) = 1; ^f :: Int");
        Probe.fault(3, "f :: Int; f = let {^f :: Int} in 1");
        Probe.fault(3, "f = let {^g :: Int} in 1; g = 2");
        Probe.right("f = let {f :: Int; f = 1} in 'c'; g = f");
    }

    /** "a LOW that is KNOWN, or a field (only in the unit)". */
    private static void knownAndFields() {
        for (String name : new String[] {"eq", "less", "add", "mul", "error", "p"}) {
            String data = "data T = C {p :: Int}; ";
            Probe.fault(3, data + "^" + name + " = 1");
            Probe.fault(3, data + "^" + name + " x = 1");
            Probe.fault(3, data + "(x, [^" + name + "]) = 1");
            Probe.fault(3, data + "^" + name + " :: Int");
            Probe.right(data + "f = let {" + name + " = 'c'} in " + name);
            Probe.right(data + "f = let {" + name + " :: Char; " + name + " = 'c'} in " + name);
            Probe.right(data + "f = let {(" + name + ", _) = ('c', 'c')} in " + name);
            Probe.right(data + "f " + name + " = case " + name + " of {" + name + " -> \\" + name + " -> " + name + "}");
        }
        Probe.fault(3, "^p = 1; data T = C {p :: Int}");
        Probe.right("p = 1; q = let {r = p} in r; data T = C {s :: Int}");
    }

    /** "then for each in turn 2": of a given type. */
    private static void typesThatAreGiven() {
        Probe.fault(2, "f :: ^Foo a => a; f = 1");
        Probe.fault(2, "f :: ^Int a => a; f = 1");
        Probe.fault(2, "f :: Eq ^b => a; f = 1");
        Probe.fault(2, "f :: (Eq a, ^Foo b) => a; f = 1");
        Probe.fault(2, "f :: (Eq ^b, Foo a) => a; f = 1");
        Probe.fault(2, "f :: (Eq a, Num ^b) => Foo a; f = 1");
        Probe.fault(2, "f :: Eq a => [^Foo a]; f = 1");
        Probe.fault(2, "f :: ^Eq; f = 1");
        Probe.fault(2, "data T a = C; f :: Int -> ^T; f = 1");
        Probe.fault(2, "data T a = C; f :: ^T Int Int; f = 1");
        Probe.right("data T a = C; f :: Eq b => T b -> c -> T c; f _ _ = C");
        Probe.fault(2, "f :: Int; f = 1; g :: ^Foo; g = 1; h :: Bar; h = 1");
        Probe.fault(2, "f = 'c' 'c'; g :: ^Foo; g = 1");
        Probe.fault(2, "f = let {g :: ^Foo; g = nope} in 'c' 'c'");
        Probe.fault(2, "f = 1 :: ^a");
        Probe.fault(2, "f :: a -> a; f x = x :: ^a");
        Probe.fault(2, "f = nope :: [^Foo]");
        Probe.fault(2, "f = 1 :: ^Int Int");
    }

    /** "4 a LOW or HIGH that means nothing; a field that is none, or not one of the part, or comes twice; .." */
    private static void meanings() {
        Probe.fault(4, "f = ^g");
        Probe.fault(4, "f = ^F");
        Probe.fault(4, "f ^F = 1");
        Probe.fault(4, "f x = 'c'; g = ^x");
        Probe.fault(4, "f = let {x = 1} in 'c'; g = ^x");
        Probe.fault(4, "data T = C; f = ^T");
        Probe.fault(4, FIELDS + "f = C {^z = 1}");
        Probe.fault(4, FIELDS + "f = C {^r = 1}");
        Probe.fault(4, FIELDS + "f = C {^f = 1}");
        Probe.fault(4, FIELDS + "f = C {p = 1, ^p = 1}");
        Probe.fault(4, FIELDS + "f = ^F {z = 1}");
        Probe.fault(4, FIELDS + "f = E {^p = 1}");
        Probe.fault(4, FIELDS + "f = True {^p = 1}");
        Probe.fault(4, FIELDS + "f = C {p = nope, ^z = 1}");
        Probe.fault(4, FIELDS + "f C {p = 'c', ^z = x} = 1");
        Probe.fault(4, FIELDS + "f C {p = x, ^p = y} = 1");
        Probe.fault(4, FIELDS + "f ^F {p = x} = 1");
        Probe.fault(4, FIELDS + "f x = x {p = 1, ^z = 1}");
        Probe.fault(4, FIELDS + "f x = x {p = 1, ^p = 1}");
        Probe.fault(4, FIELDS + "f x = x ^{p = 1, r = 'c'}");
        Probe.fault(4, FIELDS + "f x = x ^{p = 1, s = 1}");
        Probe.fault(4, FIELDS + "f x = x {p = 1, r = 'c', ^p = 1}");
        Probe.fault(4, FIELDS + "f x = x {r = 'c', p = nope, ^z = 1}");
        Probe.fault(4, FIELDS + "f = 'c' ^{p = nope, r = 'c'}");
        Probe.fault(6, FIELDS + "f = 'c' ^{p = nope}");
        Probe.fault(4, FIELDS + "f = ^nope {z = 1}");
        Probe.right(FIELDS + "f x = x {p = 1, q = 2}; g x = x {q = 1, r = 'c'}; h x = x {q = 1} {p = 2} {r = 'c'}");
    }

    /** "5 a HIGH in a pat with another number of pats than types (at it)". */
    private static void countsOfPats() {
        String data = "data T = A | B Int | C Int Char | D {p :: Int, q :: Int}; ";
        Probe.right(data + "f A = 1; f (B _) = 2; f (C _ _) = 3; f (D _ _) = 4; f D {q = _} = 5");
        Probe.fault(5, data + "f (^A x) = 1");
        Probe.fault(5, data + "f ^B = 1");
        Probe.fault(5, data + "f (^B x y) = 1");
        Probe.fault(5, data + "f (^C x) = 1");
        Probe.fault(5, data + "f (^D x) = 1");
        Probe.fault(5, data + "f (C x ^B) = 1");
        Probe.fault(5, data + "f (^True x) = 1");
        Probe.fault(5, data + "^B = 1");
        Probe.fault(5, data + "f (^B A A) = 1");
        Probe.fault(5, data + "f (^B F F) = 1");
        Probe.fault(4, data + "f (C ^F B) = 1");
    }

    /** "3 a LOW a second time in one pat, or the apats of an equation or \ (at it)". */
    private static void lowsOfPats() {
        Probe.fault(3, "f x ^x = 1");
        Probe.fault(3, "f (x, [y, (^x)]) = 1");
        Probe.fault(3, "f x z = 1; f y ^y = 2");
        Probe.fault(3, "f = \\x y ^x -> 1");
        Probe.fault(3, "f = case 1 of {x -> 1; (x, ^x) -> 2}");
        Probe.fault(3, "f = case 1 of {x : ^x -> 1}");
        Probe.fault(3, FIELDS + "f C {p = x, q = ^x} = 1");
        Probe.right("f f = f; g x = \\x -> case x of {x -> let {x = 'c'} in x}");
        Probe.right("f x = 1; f x = 2; g x _ _ = case (x, x) of {(x, y) -> 1; (y, x) -> 2}");
        Probe.fault(5, FIELDS + "f (x, ^C, x) = 1");
        Probe.fault(3, FIELDS + "f (x, ^x, C) = 1");
        Probe.fault(6, "f ['c', ^(), x, x] = 1");
    }

    /** Exps: what stands to the left is met first, and a thing ahead of what it is unified with. */
    private static void firstOfTwo() {
        Probe.fault(6, "f = 'c' ^'c' nope");
        Probe.fault(4, "f = 'c' ^nope");
        Probe.fault(4, "f = ^nope; g = 'c' 'c'");
        Probe.fault(6, "f = 'c' : True ^: 'c'");
        Probe.fault(4, "f = 'c' : True : ^nope");
        Probe.fault(6, "f = ['c', ^True, nope]");
        Probe.fault(4, "f = ['c', (True, ^nope)]");
        Probe.fault(6, "f = if ^'c' then nope else 1");
        Probe.fault(4, "f = if True then 'c' else (^nope, 1)");
        Probe.fault(6, "f = if True then 'c' else ^()");
        Probe.fault(4, "f = case ^nope of {C -> 1}");
        Probe.fault(4, "f = case 'c' of {^C -> nope}");
        Probe.fault(6, "f = case 'c' of {^() -> nope}");
        Probe.fault(6, "f = case 'c' of {_ -> 'c'; _ -> ^(); C -> 1}");
        Probe.fault(2, "f = nope :: ^Foo");
        Probe.fault(4, "f = ^nope :: Int");
        Probe.fault(4, "f (x, ^C) = nope");
        Probe.fault(3, "f = let {x = 1; ^x = 2} in nope");
        Probe.fault(4, "f = ^nope (let {x = 1; x = 2} in x)");
        Probe.fault(6, "f True = 1; ^f 'c' = 2; f _ = nope");
        Probe.fault(4, "f True = 1; f 'c' = ^nope");
    }

    /** "at its first token": of each kind of exp and pat. */
    private static void firstTokens() {
        String[] exps = {"x", "'a'", "1", "C", "_", "_h", "()", "[]", "('a', 'b')", "['a']", "C 'a'", "x : []", "x :: Char", "x {p = 1}",
            "E {p = 1}", "E {p = 1} {p = 2}", "\\y -> y", "let {} in x", "if True then x else x", "case x of {_ -> x}"};
        String data = "data T = C Char | E {p :: Int}; ";
        for (String exp : exps) {
            String x = data + "f x = ";
            Probe.fault(6, x + "'c' (^" + exp + ")");
            Probe.fault(6, x + "'c' ((^" + exp + "))");
        }
        String[] pats = {"'a'", "C _", "()", "[]", "(_, _)", "[_]", "_ : _", "E {p = 1}", "True"};
        for (String pat : pats) {
            Probe.fault(6, data + "f = case (1, 2, 3) of {^" + pat + " -> 1}");
            Probe.fault(6, data + "f = case (1, 2, 3) of {((^" + pat + ")) -> 1}");
            Probe.fault(6, data + "(^" + pat + ") = (1, 2, 3)");
        }
        Probe.fault(8, "f ^1 = 'a'; f 'c' = 'b'");
        Probe.fault(8, "data N = N; f ^1 = 'a'; f N = 'b'");
        Probe.fault(8, "f = case (\\x -> x) of {^1 -> 'a'}");
        Probe.fault(6, "data T = C Int; f = x 'c'; C ^x = C f");
    }

    /** "8 a want that nothing gives. 9 one that nothing settles", and 6 where a given type is checked. */
    private static void wants() {
        Probe.fault(8, "f x = (eq [] [], ^add 'c')");
        Probe.fault(8, "f x = (^add 'c', less add)");
        Probe.fault(6, "f x = (add 'c', 'c' ^'c')");
        Probe.fault(8, "f x = ^add 'c'; g = 'c' 'c'");
        Probe.fault(6, "g = 'c' ^'c'; f x = add 'c'");
        Probe.fault(9, "f x = (^eq [] [], less [] [])");
        Probe.fault(9, "f x = (add 1 2, ^less [] [], eq [] [])");
        Probe.fault(9, "f x = ^eq [] []; g = 'c' 'c'");
        Probe.fault(6, "f = eq [] []; g = 'c' ^'c'");
        Probe.fault(9, "f = ^eq [] []; g = 'c'");
        String escapes = "f y = let {g :: a -> a; ^g x = case [x, y] of {_ -> x}} in 'c'";
        Probe.fault(6, escapes);
        Probe.fault(9, Probe.unmarked(escapes).replace("{_ -> x}", "{_ -> case ^eq [] [] of {_ -> x}}"));
        Probe.fault(8, Probe.unmarked(escapes).replace("{_ -> x}", "{_ -> case ^add 'c' of {_ -> x}}"));
        Probe.fault(6, escapes.replace("'c'", "nope"));
    }

    public static void main(String[] args) {
        headsOfData();
        partsOfData();
        fieldsOfData();
        typesOfData();
        deriving();
        equationsRightAhead();
        givenTwiceOrNever();
        knownAndFields();
        typesThatAreGiven();
        meanings();
        countsOfPats();
        lowsOfPats();
        firstOfTwo();
        firstTokens();
        wants();
        Probe.end();
    }
}
