/** The sentences of section 5 and of promise 16 that name an edge, by promises 8 and 12 to 16. */
public final class HoleEdgesTest {
    /** What fits the first hole: these that are KNOWN, then the parts and fields at a ^, then the LOWs at a $. */
    private static void fit(String known, String text) {
        TypeInference x = new TypeInference();
        String outcome = Probe.outcome(x, text.replace("^", "").replace("$", ""));
        String due = (known + tokensAt('^', text) + tokensAt('$', text)).trim();
        Probe.due(text, outcome.equals("ok") ? Probe.fitting(x, 0) : outcome, due);
    }

    private static String tokensAt(char mark, String text) {
        StringBuilder s = new StringBuilder();
        for (int i = 0; i < text.length(); i++) {
            if (text.charAt(i) == mark) {
                s.append(' ').append(Probe.marked(text.substring(0, i).replace("^", "") + "^"));
            }
        }
        return s.toString();
    }

    /** "HOLES (HOLEs and BLANKs of exps) are numbered by tokens." */
    private static void numbers() {
        TypeInference x = new TypeInference();
        Probe.due("holes", Probe.outcome(x, "f _ = _; g = let {h :: Int; h = _a; k = __} in \\_ -> case _ of {_ -> _9}"), "ok");
        int[] due = {3, 15, 19, 26, 31};
        Probe.due("how many", x.told(4), due.length);
        for (int k = 0; k < due.length; k++) {
            Probe.due("hole " + k, x.hole(k), due[k]);
        }
        Probe.due("of one name", Probe.outcome(x, "f = (_a 'c', _a)"), "ok");
        Probe.due("how many", x.told(4), 2);
        Probe.due("the first", Probe.holeScheme(x, 0), "Char -> a");
        Probe.due("the second", Probe.holeScheme(x, 1), "a");
        Probe.due("none", Probe.outcome(x, "f _ = case 'c' of {_ -> 'c'}"), "ok");
        Probe.due("how many", x.told(4), 0);
        Probe.due("the most", Probe.reading(x, "f = _" + " _".repeat(297)), "ok");
        Probe.due("how many", x.told(4), 298);
        Probe.due("the last", x.hole(297), 299);
    }

    /** "the KNOWN, by number; parts and fields, by their first tokens; LOWs .., by the token where they are declared first". */
    private static void inOrder() {
        fit("-2 -3", "$f = _ :: Bool");
        fit("-6 -7", "f = _ 1 (1 :: Int) :: Int");
        fit("-8", "f = _ ['c'] :: ()");
        fit("-4 -5", "$g x y = False; f = _ () () :: Bool; data T = C {p :: () -> Bool} | D {q :: Bool}; $h = error []");
        fit("", "$h = C; $f = _ :: T; data T = ^C | D {p :: T} | ^E; $g = D C");
        fit("", "data T = ^C {^p :: T}; f = _ (error [] :: T) :: T; $g x = p x");
        fit("", "f $z = let {$y = 'y'; $x = 'x'} in \\$w -> ['c', w, x, y, z, _]");
        fit("", "data T = C {^p :: Char} | D {p :: Char, ^q :: Char}; f = ['c', _ (error [] :: T)]");
        // The first token of an equation, not of the given type; the first of several equations.
        fit("", "x :: Char; $x = 'c'; y 'c' = 'd'; f = ['c', _]");
        fit("", "y :: Char -> Int; $y 'c' = 1; y _ = 2; f = _ 'c' :: Int");
    }

    /** "LOWs of the unit and those of lets, apats, pats around the hole". */
    private static void around() {
        fit("", "f $x = [x, _]");
        fit("", "f $x y = [x, _]");
        fit("", "f x = 'c'; g $x = [x, _]");
        fit("", "f x = ['c', x]; f $x = [x, _]");
        fit("", "f = \\$x -> [x, _]");
        fit("", "f = case 'c' of {$x -> [x, _]}");
        fit("", "f = case 'c' of {x -> [x]; $y -> [_, 'c']}");
        fit("", "f = case _ of {x -> [x, 'c']}");
        fit("", "f = let {$x = 'c'} in ['c', _]");
        fit("", "f = let {x = 'c'} in (); g = ['c', _]; $h = 'c'");
        fit("", "f = let {$x = case ['c', _] of {_ -> 'c'}} in ()");
        fit("", "f = let {g x = [x, 'c']; y = ['c', _]} in ()");
        fit("", "f $x = let {g $y = [x, y, _]} in ()");
        fit("", "f = (let {x = 'c'} in (), \\y -> ['c', y], ['c', _])");
    }

    /** "of two that are the same LOW the inner one alone". */
    private static void innerOne() {
        fit("", "x = 'c'; f = let {x = ()} in ['c', _]");
        fit("", "x = (); f = let {$x = 'c'} in ['c', _]");
        fit("", "x = 'c'; f = let {$x = 'd'} in ['c', _]");
        fit("", "$x = 'c'; f = (let {x = ()} in x, ['c', _])");
        fit("", "x = 'c'; f x = ['c', _]");
        fit("", "x = 'c'; f $x = ['c', x, _]");
        fit("", "$x = 'c'; f x = (); g = ['c', _]");
        fit("", "x = 'c'; f = \\x -> ['c', _]");
        fit("", "$x = 'c'; f = (\\x -> x, ['c', _])");
        fit("", "x = 'c'; f = case () of {x -> ['c', _]}");
        fit("", "$x = 'c'; f = case () of {y -> ['c', _]; x -> []}");
        fit("", "f x = \\$x -> ['c', x, _]");
        fit("", "f x = case ['c', x] of {_ -> \\x -> ['c', _]}");
        fit("", "f x = let {x = 'c'; y = let {x = ()} in ['c', _]} in ()");
        fit("", "f x = let {$x = 'c'; y = let {z = ()} in ['c', _]} in ()");
        fit("", "f $x = let {g x = ()} in ['c', x, _]");
        fit("", "f = 'c'; g = let {f = ['c', _]} in ()");
        fit("", "f $f = ['c', f, _]");
        fit("", "f = case ('c', ()) of {(x, y) -> case (y, x) of {(y, $x) -> ['c', _]}}");
        fit("", "f = case ('c', ()) of {(x, y) -> case (x, y) of {($y, x) -> ['c', _]}}");
    }

    /** "no variable of that, and none of it that is not FREE, becomes another one (FIXED ones neither)". */
    private static void whatBecomes() {
        fit("", "g = 'c'; $f = _");
        fit("", "g = 'c'; $h = error []; $f = _");
        fit("", "g x = x; $f = _ 'c'");
        fit("", "$g x = x; f = [_ 'c', 'd']");
        fit("", "f $x y = [x, _]");
        fit("", "f x $y = case _ of {z -> [z, y]}");
        fit("", "f :: a -> b -> a; f $x y = _");
        fit("", "f :: a -> b -> b; f x $y = _");
        fit("", "f :: a -> Int -> a; $g = error []; f $x y = _");
        fit("", "f :: a -> a; $f x = _ x");
        fit("", "f x = let {$g y = x} in [_ 'c', 'd', x]");
        fit("", "f x = let {g y = x} in [_ 'c', 'd']");
        fit("", "f x = let {$g y = y} in [_ 'c', 'd']");
    }

    /** "its wants, reduced, are left only of its new variables, or given for FIXED ones". */
    private static void wants() {
        String data = "data N = N; data Q = Q deriving (Eq); data O = O deriving (Eq, Ord); ";
        fit("", data + "f = _ N N :: Bool");
        fit("-4", data + "f = _ Q Q :: Bool");
        fit("-4 -5", data + "f = _ O O :: Bool");
        fit("-4", data + "f = _ [(Q, O)] [(Q, O)] :: Bool");
        fit("", data + "f = _ [(Q, N)] [(Q, N)] :: Bool");
        fit("", "f x = [eq x x, _ x x]");
        fit("", "f x = [less x x, _ x x]");
        fit("", "f :: a -> Bool; f x = _ x x");
        fit("-4", "f :: Eq a => a -> Bool; f x = _ x x");
        fit("-4 -5", "f :: Ord a => a -> Bool; f x = _ x x");
        fit("-6 -7", "f :: Num a => a -> a; f x = _ x x");
        fit("", "f :: Num a => a -> Bool; f x = _ x x");
        fit("-4", "f :: Eq a => a -> Bool; f x = _ [x] [x]");
        fit("", "$g x = less x x; f = [_ 'c', True]");
        fit("", "g x = less x x; f = [_ add, True]");
    }

    /** "an instance of its scheme, as it is at the end (of 60 PARTS at most)". */
    private static void sizes() {
        String grow = "case [x, " + Sizes.exp(29) + "] of ";
        fit("", Sizes.D + "f x = let {$y = (x, x, 'c')} in " + grow + "{_ -> case if True then y else _ of {_ -> 'c'}}");
        fit("", Sizes.D + "f x = let {y = (x, x, ['c']); $z = error []} in " + grow + "{_ -> case [_, (x, ())] of {_ -> 'c'}}");
        fit("", Sizes.D + "$g = " + Sizes.exp(60) + "; $f = if True then g else _");
        // As it is at the end: x comes to be Char behind the hole.
        fit("", "f $x = case ['c', _] of {_ -> [x, 'c']}");
        fit("", "f $x = (let {$y = x} in ['c', _], [x, 'c'])");
    }

    private static void covered(String unit, String given, String due) {
        TypeInference x = new TypeInference();
        Probe.due(unit, Probe.outcome(x, unit), "ok");
        Probe.tape(x, given);
        Probe.due(unit + " covers " + given, Probe.thrown(() -> x.covers(0)), due);
        Probe.due("the tape stays", x.cut(0), given.length());
    }

    /** "the TAPE is none": of fault 1, at every one of its edges. */
    private static void noGivenType() {
        String wrong = "IllegalArgumentException";
        String unit = "f x = error []; data T a = C a; data U a b c d e = D";
        String[] none = {"", " ", "\n", "@", "1", "_", "->", "a ->", "a b", "=>", "Eq =>", "Eq a =>", "(Eq a)=>", "Eq a => Eq b => a", "a;",
            "a = a", ":: a", "(a", "a)", "[]", "[a, b]", "(a, b, c, d, e, g)", "T {", "data", "(T) a", "a -> b ^"};
        for (String text : none) {
            covered(unit, text, wrong);
        }
        covered(unit, "a -> (a, b, c, d, e)", "true");
        covered(unit, "\n a \n->\n b ", "true");
        covered(unit, "a -> " + "[".repeat(37) + "b" + "]".repeat(37), "true");
        covered(unit, "a -> " + "[".repeat(38) + "b" + "]".repeat(38), wrong);
        covered(unit, "Eq a => " + "a -> ".repeat(38) + "a", "true");
        covered(unit, "Eq a => " + "a -> ".repeat(39) + "a", wrong);
        covered(unit, "a -> " + "b -> ".repeat(37) + "b", "true");
        covered(unit, "a -> b" + " ".repeat(1494), "true");
        covered(unit, "a -> b" + " ".repeat(1493) + ")", wrong);
        String most = "(" + "Eq a, ".repeat(97) + "Eq a) => ";
        covered(unit, most + "a -> b", "true");
        covered(unit, most + "[a] -> b", wrong);
    }

    /** "2 counts, too". */
    private static void wrongGivenType() {
        String wrong = "IllegalArgumentException";
        String unit = "f x = error []; data T a = C a; data U a b c d e = D";
        String[] none = {"T", "T a b", "Foo", "Foo a", "Int a", "a -> T", "[T]", "(a, T)", "T (T)", "U", "U a b c d", "U a b c d e g", "C",
            "Foo a => a -> b", "T a => a -> b", "Eq b => a -> a", "(Eq a, Eq c) => a -> b", "(Eq a, Foo a) => a -> b", "f -> F"};
        for (String text : none) {
            covered(unit, text, wrong);
        }
        covered(unit, "T a -> U a b c d e", "true");
        covered(unit, "(Eq a, Ord a, Num b, Num b) => T a -> b", "true");
        covered(unit, "f -> f", "true");
    }

    /** "10 does not": a type of 60 PARTS is a given type, and so is one of 61. */
    private static void largeGivenType() {
        for (int parts = 59; parts <= 62; parts++) {
            covered("f x = error []", Sizes.type(parts - 2) + " -> Int", "true");
            covered("f = error []", Sizes.type(parts), "true");
            covered("f x = error []", Sizes.type(parts), "false");
            covered("f x = 'c'", "a -> " + Sizes.type(parts - 2), "false");
            covered("f x = eq x x", Sizes.type(parts - 2) + " -> Bool", "true");
            covered("f x = add x x", "Int -> " + Sizes.type(parts - 2), "false");
            covered("f = error []", "(Foo, " + Sizes.type(parts - 2) + ")", "IllegalArgumentException");
        }
    }

    /** "an instance of it can be unified with that type, its variables FIXED, and its wants, reduced, are given, or of new variables". */
    private static void asGeneral() {
        covered("f x = x", "a -> a", "true");
        covered("f x = x", "a -> b", "false");
        covered("f x = x", "(a -> b) -> a -> b", "true");
        covered("f x = 'c'", "a -> Char", "true");
        covered("f x = 'c'", "a -> b", "false");
        covered("f = 'c'", "a", "false");
        covered("f = error []", "a", "true");
        covered("f x = [x, 'c']", "a -> [a]", "false");
        covered("f x = x", "[a] -> [b]", "false");
        covered("f x = (x, x)", "a -> (a, a, a)", "false");
        covered("f x y = eq x y", "a -> a -> Bool", "false");
        covered("f x y = eq x y", "Num a => a -> a -> Bool", "false");
        covered("f x y = eq x y", "Ord a => [a] -> [a] -> Bool", "true");
        covered("f x y = less x y", "Eq a => a -> a -> Bool", "false");
        covered("f x y = less x y", "(Eq a, Ord a) => a -> a -> Bool", "true");
        covered("f x y = add x y", "Num a => a -> a -> a", "true");
        covered("f x y = add x y", "Num a => [a] -> [a] -> [a]", "false");
        covered("f x y = add x y", "Bool -> Bool -> Bool", "false");
        covered("f :: (Eq a, Num b) => a -> b; f = error []", "(Num a, Eq a) => a -> a", "true");
        covered("f :: (Eq a, Num b) => a -> b; f = error []", "Num a => a -> a", "false");
    }

    public static void main(String[] args) {
        numbers();
        inOrder();
        around();
        innerOne();
        whatBecomes();
        wants();
        sizes();
        noGivenType();
        wrongGivenType();
        largeGivenType();
        asGeneral();
        Probe.end();
    }
}
