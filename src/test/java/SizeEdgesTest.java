/**
 * Fault 10 of section 3, by promises 5, 6 and 14: each place that the document names, with 60 PARTS and with 61.
 * A ^ stands ahead of the token where a fault is due.
 */
public final class SizeEdgesTest {
    private static final String D = Sizes.D;
    private static final String DATA = "data T a = C {p :: a} | E; ";
    /** What makes the type of x have 29 PARTS, so that (x, x, 'c') has 60 and (x, x, ['c']) has 61. */
    private static final String GROW = "case [x, " + Sizes.exp(29) + "] of ";

    /** A pat with as many variables as the type has Ints. */
    private static String pat(int parts) {
        return Sizes.type(parts).replace("Int", "_");
    }

    /** The texts that the rows below are made of are as large as they say. */
    private static void sizes() {
        for (int i = 1; i <= 60; i++) {
            TypeInference x = new TypeInference();
            Probe.due("exp " + i, Probe.outcome(x, D + "f = " + Sizes.exp(i)), "ok");
            Probe.due("exp " + i, Sizes.parts(Probe.scheme(x, 1)), i);
            Probe.due("type " + i, Sizes.parts(Sizes.type(i)), i);
        }
    }

    /** "a part's (at its HIGH, behind 2 of all data)". */
    private static void parts() {
        Probe.right("data T = C " + Sizes.type(58));
        Probe.fault(10, "data T = ^C " + Sizes.type(59));
        Probe.right("data T a b = C a " + Sizes.type(54));
        Probe.fault(10, "data T a b = ^C a " + Sizes.type(55));
        Probe.right("data T = C {p :: Int, q :: " + Sizes.type(56) + "}");
        Probe.fault(10, "data T = ^C {p :: Int, q :: " + Sizes.type(57) + "}");
        Probe.right("data T = C" + " Int".repeat(29));
        Probe.fault(10, "data T = ^C" + " Int".repeat(30));
        Probe.fault(10, "data T = A | ^C " + Sizes.type(59) + " | B " + Sizes.type(59));
        Probe.fault(10, "data U = A Int; data T = B | ^C " + Sizes.type(59));
        Probe.fault(2, "data T = C " + Sizes.type(59) + "; data U = A ^Foo");
        Probe.fault(2, "data T = C " + Sizes.type(59) + "; data U = A deriving (^Num)");
        Probe.fault(2, "data T = C " + Sizes.type(59) + " ^Foo");
        Probe.fault(10, "f = nope; f = 2; data T = ^C " + Sizes.type(59));
    }

    /** "a given one (at its LOW, behind 2 in that)". */
    private static void givenTypes() {
        Probe.right("f :: " + Sizes.type(60) + "; f = error []");
        Probe.fault(10, "^f :: " + Sizes.type(61) + "; f = error []");
        Probe.right("f :: Eq a => (a, " + Sizes.type(58) + "); f = error []");
        Probe.fault(10, "^f :: Eq a => (a, " + Sizes.type(59) + "); f = error []");
        Probe.right("f :: a -> " + Sizes.type(58) + "; f x = error []");
        Probe.fault(10, "^f :: a -> " + Sizes.type(59) + "; f x = error []");
        Probe.right("f = let {g :: " + Sizes.type(60) + "; g = error []} in 'c'");
        Probe.fault(10, "f = let {^g :: " + Sizes.type(61) + "; g = error []} in 'c'");
        Probe.fault(2, "f :: (^Foo, " + Sizes.type(61) + "); f = error []");
        Probe.fault(2, "f :: Eq ^b => (a, " + Sizes.type(61) + "); f = error []");
        Probe.fault(2, "g :: ^Foo; g = 1; f :: " + Sizes.type(61) + "; f = error []");
        Probe.fault(10, "^f :: " + Sizes.type(61) + "; f = error []; g :: Foo; g = 1");
        Probe.fault(3, "f :: " + Sizes.type(61) + "; f = error []; ^g :: Foo");
        Probe.fault(10, "g = 'c' 'c'; ^f :: " + Sizes.type(61) + "; f = error []");
    }

    /** "either of two that are UNIFIED (ahead of all else)": of exps. */
    private static void unifiedExps() {
        Probe.right(D + "f = if True then " + Sizes.exp(60) + " else error []");
        Probe.right(D + "f = if True then error [] else " + Sizes.exp(60));
        Probe.fault(10, D + "f = if True then " + Sizes.exp(61) + " else ^error []");
        Probe.fault(10, D + "f = if True then error [] else ^" + Sizes.exp(61));
        Probe.fault(6, D + "f = if ^" + Sizes.exp(60) + " then 'c' else 'c'");
        Probe.fault(10, D + "f = if ^" + Sizes.exp(61) + " then 'c' else 'c'");
        Probe.right(D + "f = (\\_ -> 'c') " + Sizes.exp(58));
        Probe.fault(10, D + "f = (\\_ -> 'c') ^" + Sizes.exp(59));
        Probe.right(D + "f = (\\_ -> " + Sizes.exp(58) + ") 'c'");
        Probe.fault(10, D + "f = (\\_ -> " + Sizes.exp(59) + ") ^'c'");
        Probe.right(D + "f = " + Sizes.exp(59) + " : []");
        Probe.fault(10, D + "f = " + Sizes.exp(60) + " ^: []");
        Probe.right(D + "f = error [] : [" + Sizes.exp(59) + "]");
        Probe.fault(10, D + "f = error [] ^: [" + Sizes.exp(60) + "]");
        Probe.right("f = error [] :: " + Sizes.type(60));
        Probe.fault(10, "f = error [] ^:: " + Sizes.type(61));
        Probe.fault(6, D + "f = " + Sizes.exp(60) + " ^:: Int");
        Probe.fault(10, D + "f = " + Sizes.exp(61) + " ^:: Int");
        Probe.right(D + "f = [" + Sizes.exp(59) + ", error []]");
        Probe.fault(10, D + "^f = [" + Sizes.exp(60) + ", error []]");
        Probe.fault(10, D + "f = [" + Sizes.exp(61) + ", ^error []]");
        Probe.fault(10, D + "f = [error [], ^" + Sizes.exp(61) + "]");
        Probe.right(D + "f = case " + Sizes.exp(60) + " of {_ -> 'c'}");
        Probe.fault(10, D + "f = case " + Sizes.exp(61) + " of {^_ -> 'c'}");
        Probe.right(D + "f = case 'c' of {_ -> " + Sizes.exp(60) + "; _ -> error []}");
        Probe.fault(10, D + "f = case 'c' of {_ -> " + Sizes.exp(61) + "; _ -> ^error []}");
        Probe.fault(10, D + "f = case 'c' of {_ -> error []; _ -> ^" + Sizes.exp(61) + "}");
    }

    /** The same of records, pats and decls. */
    private static void unifiedElsewhere() {
        Probe.right(D + DATA + "f = C {p = " + Sizes.exp(59) + "}");
        Probe.fault(10, D + DATA + "^f = C {p = " + Sizes.exp(60) + "}");
        Probe.fault(10, D + DATA + "f = C {p = ^" + Sizes.exp(61) + "}");
        Probe.right(D + DATA + "f = C {p = " + Sizes.exp(59) + "} {p = error []}");
        Probe.fault(10, D + DATA + "f = C {p = " + Sizes.exp(60) + "} ^{p = error []}");
        Probe.right(D + DATA + "f = (error []) {p = " + Sizes.exp(59) + "}");
        Probe.fault(10, D + DATA + "^f = (error []) {p = " + Sizes.exp(60) + "}");
        Probe.fault(10, D + DATA + "f = (error []) {p = ^" + Sizes.exp(61) + "}");
        Probe.right("f = case error [] of {" + pat(60) + " -> 'c'}");
        Probe.fault(10, "f = case error [] of {^" + pat(61) + " -> 'c'}");
        Probe.right(DATA + "f = case E of {C " + pat(59) + " -> 'c'}");
        Probe.fault(10, DATA + "f = case E of {^C " + pat(60) + " -> 'c'}");
        Probe.fault(10, DATA + "f = case E of {C ^" + pat(61) + " -> 'c'}");
        Probe.fault(10, DATA + "f = case E of {C {p = ^" + pat(61) + "} -> 'c'}");
        Probe.right("f = case [] of {" + pat(59) + " : _ -> 'c'}");
        Probe.fault(10, "f = case [] of {" + pat(60) + " ^: _ -> 'c'}");
        Probe.right("f = case [] of {[_, " + pat(59) + "] -> 'c'}");
        Probe.fault(10, "f = case [] of {^[_, " + pat(60) + "] -> 'c'}");
        Probe.fault(10, "f = case [] of {[_, ^" + pat(61) + "] -> 'c'}");
        Probe.right(D + "f = " + Sizes.exp(60));
        Probe.fault(10, D + "^f = " + Sizes.exp(61));
        Probe.right(D + "f _ = " + Sizes.exp(58));
        Probe.fault(10, D + "^f _ = " + Sizes.exp(59));
        Probe.right("f " + pat(58) + " = 'c'");
        Probe.fault(10, "^f " + pat(59) + " = 'c'");
        Probe.fault(10, "f _ = 'c'; ^f " + pat(59) + " = 'c'");
        Probe.right(D + "(f, _) = " + Sizes.exp(60));
        Probe.fault(10, D + "^(f, _) = " + Sizes.exp(61));
        Probe.right(D + "f :: Int -> a; f x = case " + Sizes.exp(60) + " of {_ -> error []}");
        Probe.fault(10, "f :: a -> Int; ^f " + pat(59) + " = 1");
    }

    /** Ahead of 6, of 7, and of nothing to be said at all. */
    private static void aheadOfAllElse() {
        Probe.fault(6, D + "f = if True then " + Sizes.exp(60) + " else ^'c'");
        Probe.fault(10, D + "f = if True then " + Sizes.exp(61) + " else ^'c'");
        Probe.fault(7, D + "f x = if True then x else ^(x, " + Sizes.exp(58) + ")");
        Probe.fault(10, D + "f x = if True then x else ^(x, " + Sizes.exp(59) + ")");
        String y = "f x = let {y = (x, x, 'c')} in " + GROW;
        Probe.right(D + y + "{_ -> case if True then y else y of {_ -> 'c'}}");
        Probe.fault(10, D + y + "{_ -> case if True then [y] else ^[y] of {_ -> 'c'}}");
    }

    /** "that of a LOW, field or part of which an INSTANCE is made". Of fields and parts it was said when they were built. */
    private static void instances() {
        String let = "f x = let {y = (x, x, 'c')} in " + GROW + "{_ -> case ^y of {_ -> 'c'}}";
        Probe.right(D + Probe.unmarked(let));
        Probe.fault(10, D + let.replace("(x, x, 'c')", "(x, x, ['c'])"));
        String ofPat = "f x = case error [] of {y -> case [y, (x, x, 'c')] of {_ -> " + GROW + "{_ -> case ^y of {_ -> 'c'}}}}";
        Probe.right(D + Probe.unmarked(ofPat));
        Probe.fault(10, D + ofPat.replace("(x, x, 'c')", "(x, x, ['c'])"));
        // Of nobody who is not asked.
        Probe.right(D + Probe.unmarked(ofPat.replace("(x, x, 'c')", "(x, x, ['c'])").replace("case ^y", "case 'y'")));
        Probe.right("data T = C " + Sizes.type(58) + "; f = C");
        Probe.right("data T = C {p :: " + Sizes.type(58) + "}; f = p");
        Probe.right("f :: " + Sizes.type(60) + "; f = error []; g = f");
    }

    /** "that of a WANT that is REDUCED (at its token, ahead of 8)". */
    private static void wants() {
        String eq = "f x = case ^eq (x, x, 'c') of {_ -> " + GROW + "{_ -> 'c'}}";
        Probe.right(D + Probe.unmarked(eq));
        Probe.fault(10, D + eq.replace("(x, x, 'c')", "(x, x, ['c'])"));
        String add = eq.replace("eq", "add");
        Probe.fault(8, D + add);
        Probe.fault(10, D + add.replace("(x, x, 'c')", "(x, x, ['c'])"));
        String given = "f :: Int -> Char; f n = (\\x -> case ^eq (x, x, 'c') of {_ -> " + GROW + "{_ -> 'c'}}) (error [])";
        Probe.right(D + Probe.unmarked(given));
        Probe.fault(10, D + given.replace("(x, x, 'c')", "(x, x, ['c'])"));
        String let = "f x = let {g y = case ^eq (x, x, 'c') of {_ -> " + GROW + "{_ -> 'c'}}} in 'c'";
        Probe.right(D + Probe.unmarked(let));
        Probe.fault(10, D + let.replace("(x, x, 'c')", "(x, x, ['c'])"));
        // At the end of the unit, ahead of its LOWs.
        String end = "n = (\\x -> case ^eq x x of {_ -> x}) (error []); m x = case [n, (x, x, 'c')] of {_ -> " + GROW + "{_ -> 'c'}}";
        Probe.right(D + Probe.unmarked(end));
        Probe.fault(10, D + end.replace("(x, x, 'c')", "(x, x, ['c'])"));
        // In order: what is wanted first is looked at first.
        Probe.fault(8, D + "f x = case (^add 'c', eq (x, x, ['c'])) of {_ -> " + GROW + "{_ -> 'c'}}");
        Probe.fault(10, D + "f x = case (^eq (x, x, ['c']), add 'c') of {_ -> " + GROW + "{_ -> 'c'}}");
    }

    /** "of a LOW when it is CLOSED (at it, behind what is REDUCED, ahead of what is SETTLED)". */
    private static void closed() {
        // f has x -> (x, x, 'c'), where x comes to have 19 PARTS behind f's own equation.
        String f = "^f x = case g x of {_ -> (x, x, 'c')}; g y = case [f y] of {_ -> case [y, " + Sizes.exp(19) + "] of {_ -> 'c'}}";
        String larger = f.replace("(x, x, 'c')", "(x, x, ['c'])");
        Probe.right(D + Probe.unmarked(f));
        Probe.fault(10, D + larger);
        Probe.fault(10, D + larger + "; h = 'c' 'c'");
        Probe.fault(6, D + "h = 'c' ^'c'; " + Probe.unmarked(larger));
        Probe.right(D + "h = let {" + Probe.unmarked(f) + "} in 'c'");
        Probe.fault(10, D + "h = let {" + larger + "} in 'c' 'c'");
        TypeInference notLocal = new TypeInference();
        notLocal.setting(1, false);
        Probe.fault(notLocal, 10, D + "h = let {" + larger + "} in 'c' 'c'");
        String reduced = Probe.unmarked(larger).replace("{_ -> 'c'}", "{_ -> ^add 'c'}");
        Probe.fault(8, D + reduced);
        String settled = larger.replace("{_ -> 'c'}", "{_ -> eq [] []}");
        Probe.fault(10, D + settled);
        Probe.fault(9, D + Probe.unmarked(f).replace("{_ -> 'c'}", "{_ -> ^eq [] []}"));
        // Of several by tokens: g's is of 61 PARTS, too.
        Probe.fault(10, D + "^f x = case g x of {_ -> (x, x, ['c'])}; g x = case h x of {_ -> (x, x, ['c'])}; "
            + "h x = case (f x, g x) of {_ -> case [x, " + Sizes.exp(19) + "] of {_ -> 'c'}}");
    }

    /** "at the end, behind all else, of the unit's LOWs, then of holes, by tokens". */
    private static void atTheEnd() {
        String n = "^n = (\\x -> case eq x x of {_ -> (x, x, 'c')}) (error []); ";
        String m = "m = case n of {(x, _, _) -> " + GROW + "{_ -> 'c'}}";
        String larger = n.replace("(x, x, 'c')", "(x, x, ['c'])");
        Probe.right(D + Probe.unmarked(n) + m);
        Probe.fault(10, D + larger + m);
        Probe.fault(10, D + "^k = n; " + Probe.unmarked(larger) + m);
        Probe.fault(6, D + Probe.unmarked(larger) + m + "; z = 'c' ^'c'");
        Probe.fault(9, D + Probe.unmarked(larger) + m + "; z = ^eq");
        String hole = "f x = case [^_h, (x, x, 'c')] of {_ -> " + GROW + "{_ -> 'c'}}; ";
        String largerHole = hole.replace("(x, x, 'c')", "(x, x, ['c'])");
        Probe.right(D + Probe.unmarked(hole));
        Probe.fault(10, D + largerHole);
        Probe.fault(10, D + largerHole.replace("[^_h,", "[^_, _,"));
        Probe.fault(10, D + Probe.unmarked(largerHole) + larger + m);
        Probe.fault(9, D + Probe.unmarked(largerHole) + "z = ^eq");
        Probe.fault(10, D + "e = f; " + largerHole + Probe.unmarked(largerHole).replace("f x", "k x"));
    }

    public static void main(String[] args) {
        sizes();
        parts();
        givenTypes();
        unifiedExps();
        unifiedElsewhere();
        aheadOfAllElse();
        instances();
        wants();
        closed();
        atTheEnd();
        Probe.end();
    }
}
