/** The sentences of section 1 that name an edge, and fault 1 of section 3, by promises 2, 3, 4 and 8. */
public final class TextEdgesTest {
    private static void good(String text) {
        Probe.due(text, Probe.reading(new TypeInference(), text), "ok");
    }

    /** A text that is none from its ^ on. */
    private static void none(String text) {
        Probe.due(text, Probe.reading(new TypeInference(), Probe.unmarked(text)), "1@" + Probe.marked(text));
    }

    private static void tokens(String text, int due) {
        TypeInference x = new TypeInference();
        Probe.due(text, Probe.reading(x, text), "ok");
        Probe.due("tokens of " + text, x.told(0), due);
    }

    /** "THE TAPE has up to 1500 bytes": the last of them counts, too. */
    private static void bytes() {
        String padded = "f = 'c'" + " ".repeat(1493);
        tokens(padded, 3);
        tokens("f = 'c'" + "\n".repeat(1492) + ";", 4);
        none("f = 'c'" + " ".repeat(1492) + "^)");
        none("f = 'c'" + " ".repeat(1492) + "^@");
        tokens("f=" + "x".repeat(1498), 3);
        TypeInference x = new TypeInference();
        Probe.due("a LOW that is long", Probe.outcome(x, "f=" + "x".repeat(1498)), "4@2");
        String twice = "x".repeat(747);
        Probe.due("two that are long", Probe.schemes(x, "f " + twice + "=" + twice), "a -> a");
        Probe.due("two that differ at their ends", Probe.outcome(x, "f " + twice + "=" + twice + "y"), "4@3");
    }

    /** "Blanks are 32 and 10." */
    private static void blanks() {
        tokens(" \n f \n=\n 'c' \n ", 3);
        for (char c : new char[] {0, 9, 11, 12, 13, 31, 127, 128, 160, 255}) {
            none("f = ^" + c + "1");
        }
        for (char c : "!\"#$%&*+-./<>?@`~'".toCharArray()) {
            none("f = ^" + c + " 1");
        }
    }

    /** "TOKENS, each as long as can be". */
    private static void longTokens() {
        tokens("f=aB_9zZ", 3);
        tokens("f=A_9b C", 4);
        tokens("f=9a 9A 9_", 8);
        tokens("f=_a_ _9 __", 5);
        tokens("f=a:b::[c]", 9);
        tokens("f=a::b->c", 7);
        tokens("f=a'b'c", 5);
        tokens("f=\\x->x", 6);
        tokens("a=b;z=y;fa=fz;fA=fZ;f0=f9;f_=f__", 23);
        tokens("f A Z AA ZZ A0 Z9 A_=C", 10);
        tokens("f=0 9 09 90", 6);
        none("f = a::^:b");
        none("f =^=> a");
        none("f ^=> a");
        none("f :: a -^-> b");
        none("f :: a ->^> b");
        none("f = x ^- > 1");
        none("f ^: : a");
    }

    /** "a NUMBER is 1 to 9 digits (a row of more begins none)". */
    private static void numbers() {
        tokens("f = 0", 3);
        tokens("f = 999999999", 3);
        tokens("f = 000000000", 3);
        tokens("f = 123456789x", 4);
        tokens("f = 123456789 123456789", 4);
        tokens("f 123456789 = 1", 4);
        none("f = ^1234567890");
        none("f = ^0000000000");
        none("f = ^1234567890x");
        none("f = 1 ^1234567890123456789012");
        none("f ^1234567890 = 1");
        none("f ^) 1234567890");
    }

    /** "a SIGN ' , a byte 32 .. 126 but ', and '". */
    private static void signs() {
        for (char c = 32; c <= 126; c++) {
            if (c != '\'') {
                tokens("f = '" + c + "'", 3);
            }
        }
        for (char c : new char[] {0, 10, 31, '\'', 127, 128, 255}) {
            none("f = ^'" + c + "'");
        }
        none("f = ^'");
        none("f = ^''");
        none("f = ^'a");
        none("f = ^'ab'");
        tokens("f = 'a'' '", 4);
    }

    /** The WORDS; "_ alone is a BLANK; a LOW that begins with _ is no LOW of the lines below, but a HOLE". */
    private static void words() {
        for (String word : "data deriving let in case of if then else".split(" ")) {
            none("f ^" + word + " = 1");
            none("f = x ^" + word);
            none("f = x {^" + word + " = 1}");
            none("f :: ^" + word);
        }
        for (String word : "deriving let in case of if then else".split(" ")) {
            none("^" + word + " = 1");
        }
        tokens("data_ = 1; lets = 2; i = 3; iff = 4; oF = 5", 19);
        good("Data = 1; Let = 2");
        good("f _ = [_, _let, _1, __, _X]");
        none("^_ = 1");
        none("^_f = 1");
        none("^_ :: Int");
        none("f ^_x = 1");
        none("f (x, ^_y) = 1");
        none("f = \\^_x -> 1");
        none("f :: ^_");
        none("f :: ^_a");
        none("f :: Eq ^_ => a");
        none("data T ^_ = C");
        none("data T ^_a = C");
        none("data T = C {^_a :: Int}");
        none("f = x {^_a = 1}");
        none("f C {^_ = x} = 1");
    }

    /** "At most 300 tokens, numbered from 0 (the 301st begins none)". */
    private static void mostTokens() {
        String most = "f = [" + "'c', ".repeat(147) + "'c']";
        tokens(most, 299);
        tokens(most + ";", 300);
        tokens(most + "; \n ", 300);
        none(most + ";^;");
        none(most + "; ^g");
        none(most + "; ^@");
        none(most + "; ^'");
        none(most + " : ^g");
        none("f = [" + "'c', ".repeat(148) + "'c'^");
        none("f = [" + "'c', ".repeat(148) + "'c' ^]");
        none("f = [" + "'c', ".repeat(148) + "^] 'c'");
        TypeInference x = new TypeInference();
        Probe.due("300 tokens are typed", Probe.schemes(x, most + ";"), "[Char]");
        Probe.due("the last of 300 is a hole", Probe.schemes(x, "g x = [" + "'c', ".repeat(145) + "'c']; f = _"),
            "a -> [Char]; a");
        Probe.due("the last token", x.hole(0), 299);
    }

    /** "LOW* (5 at most)". */
    private static void lowsOfData() {
        good("data T = C");
        good("data T a b c d e = C");
        none("data T a b c d e ^f = C");
        none("data T a b c d e ^f");
        none("data T a b c d e^");
        Probe.due("five", Probe.schemes(new TypeInference(), "data T a b c d e = C a b c d e; f x = C x 'c' () True []"),
            "a -> T a Char () Bool [b]");
    }

    /** "( ) with one thing in it is that thing, with its own first token"; "a tuple has 2 to 5". */
    private static void tuples() {
        good("f = ()");
        good("f = (a, b)");
        good("f = (a, b, c, d, e)");
        none("f = (a, b, c, d, e^, g)");
        none("f = (a, b, c, d, e^");
        none("f = (^, a)");
        good("f () = 1");
        good("f (a, b, c, d, e) = 1");
        none("f (a, b, c, d, e^, g) = 1");
        none("(a, b, c, d, e^, g) = 1");
        good("f :: ()");
        good("f :: (a, b, c, d, e)");
        none("f :: (a, b, c, d, e^, g)");
        good("data T = C (a, b, c, d, e)");
        none("data T = C (a, b, c, d, e^, g)");
        good("f = [a, b, c, d, e, g]");
        good("f [a, b, c, d, e, g] = 1");
        none("f :: [a^, b]");
        none("f :: [^]");
        Probe.due("one", Probe.schemes(new TypeInference(), "f (x) = ((x)); g :: ((Int)); g = (1); (h) = ('c')"),
            "a -> a; Int; Char");
        Probe.fault(6, "f = 'c' (^'c')");
        Probe.fault(6, "f = 'c' (((^error [] 'c')))");
        Probe.fault(6, "f = [(), ((^'c'))]");
        Probe.fault(6, "f = if True then () else (^'c')");
        Probe.fault(6, "(^[x]) = 'c'");
        Probe.fault(6, "f = 'c' ^('c', 'c')");
        Probe.due("(C) { .. }", Probe.schemes(new TypeInference(), "data T = C {p :: Int} | D; f = (C) {p = 1}; g = ((C)) {p = 1}"),
            "T; T");
        Probe.fault(4, "data T = C {p :: Int, q :: Int} | D {q :: Int}; f = (D) {^p = 1}");
        none("f (C) ^{p = x} = 1");
    }

    /** What an exp of the 40th level may have: no exp, pat, type or given. */
    private static void fortiethExp(String exp) {
        none("f = " + "(".repeat(39) + exp);
    }

    private static void under(String exp) {
        good("f = " + "(".repeat(38) + exp + ")".repeat(38));
    }

    /** "Each exp, pat, type, given that is read within others is one level more; the 41st is none (at its first token)". */
    private static void levels() {
        String[] none = {"(^x)", "[^x]", "(^(x, y))", "\\x -> ^x", "\\(^x) -> x", "let {} in ^x", "let {x = ^1} in x",
            "let {x :: ^a; x = 1} in x", "let {x :: ^Eq a => a} in x", "let {^(x) = 1} in x", "let {^C = 1} in x",
            "let {g (^x) = 1} in x", "if ^x then x else x", "case ^x of {x -> x}", "C {p = ^x}", "x {p = ^x}", "x :: ^a", "^", "^@"};
        for (String exp : none) {
            fortiethExp(exp);
        }
        String[] good = {"x", "()", "[]", "'c'", "C x 1", "x : y : [] : ()"};
        for (String exp : good) {
            Probe.due(exp, Probe.reading(new TypeInference(), "f = " + "(".repeat(39) + exp + ")".repeat(39)), "ok");
        }
        String[] under = {"(x)", "[x, y]", "(x, y)", "\\x y -> x", "\\(x) -> x", "let {} in x", "let {x = 1; y = 2} in x",
            "let {[] = 1} in x", "let {g (x) = 1} in x", "if x then y else z", "case x of {C y -> z}",
            "C {p = x, q = y}", "x {p = x} {q = y}", "x :: T a"};
        for (String exp : under) {
            under(exp);
        }
        String[] above = {"let {x :: ^a} in x", "let {x :: Eq a => ^a} in x", "let {x :: (Eq a, Eq b) => ^a} in x",
            "let {(^x) = 1} in x", "let {C (^x) = 1} in x", "let {g ((^x)) = 1} in x", "case x of {(^x) -> x}",
            "case x of {x : ^y -> x}", "case x of {C {p = ^y} -> x}", "x :: a -> ^b", "x :: [^b]", "x :: T (^b)",
            "\\x -> (^x)", "if (^x) then y else z", "if x then (^y) else z", "if x then y else (^z)", "(x, (^y))",
            "(x, y, z, u, [^v])", "[x, [^y]]", "C {p = x, q = (^y)}",
            "x {p = (^y)}", "case (^x) of {x -> x}", "case x of {x -> (^x)}", "case x of {x -> x; y -> (^y)}",
            "let {x = (^y)} in x", "let {C = (^x)} in x", "let {} in (^x)"};
        for (String exp : above) {
            none("f = " + "(".repeat(38) + exp);
        }
        for (String exp : new String[] {"case x of {[x, (^y)] -> x}", "x :: (a, [^b])", "let {x :: a -> ^b} in x"}) {
            none("f = " + "(".repeat(37) + exp);
        }
    }

    private static void levelsElsewhere() {
        good("f :: " + "[".repeat(38) + "a" + "]".repeat(38));
        none("f :: " + "[".repeat(39) + "^a");
        good("f :: " + "a -> ".repeat(38) + "a");
        none("f :: " + "a -> ".repeat(39) + "^a");
        none("f :: Eq a => " + "a -> ".repeat(39) + "^a");
        good("data T = C {p :: " + "[".repeat(39) + "a" + "]".repeat(39) + "}");
        none("data T = C {p :: " + "[".repeat(40) + "^a");
        good("data T = C " + "[".repeat(40) + "a" + "]".repeat(40));
        none("data T = C " + "[".repeat(41) + "^a");
        good("f " + "(".repeat(40) + "x" + ")".repeat(40) + " = 1");
        none("f " + "(".repeat(41) + "^x");
        good("f " + "[".repeat(41) + "]".repeat(41) + " = 1");
        good("(".repeat(39) + "x, y" + ")".repeat(39) + " = 1");
        good("(".repeat(40) + ")".repeat(40) + " = 1");
        none("(".repeat(40) + "^x");
        good("[] = " + "(".repeat(39) + "x" + ")".repeat(39));
        none("[] = " + "(".repeat(40) + "^x");
        good("f x = " + "(".repeat(39) + "x" + ")".repeat(39));
        none("f x = " + "(".repeat(40) + "^x");
        good("[] : ".repeat(39) + "x = 1");
        none("[] : ".repeat(40) + "^x = 1");
        good("f = " + "x : ".repeat(140) + "x");
        good("f = " + "x ".repeat(290));
    }

    /** A unit, a let, without decls; "[ ; ]" behind the last decl of a unit, of let, and behind the last pat of case. */
    private static void withoutDecls() {
        tokens("", 0);
        tokens(" \n", 0);
        none("^;");
        good("f = 1");
        good("f = 1;");
        none("f = 1;^;");
        none("f = 1;^; g = 2");
        none("f = 1 g ^= 2");
        good("f = let {} in 1");
        good("f = let {x = 1} in 1");
        good("f = let {x = 1;} in 1");
        good("f = let {x = 1; y = 2;} in 1");
        none("f = let {^;} in 1");
        none("f = let {x = 1;^;} in 1");
        none("f = let {x = 1 ^in 1");
        none("f = let ^x = 1 in 1");
        none("f = let {^data T = C} in 1");
        none("f = let {x = 1; ^data T = C} in 1");
        good("f = case 1 of {x -> 1}");
        good("f = case 1 of {x -> 1;}");
        good("f = case 1 of {x -> 1; y -> 2;}");
        none("f = case 1 of {^}");
        none("f = case 1 of {^;}");
        none("f = case 1 of {x -> 1;^;}");
        Probe.due("a unit without decls", Probe.schemes(new TypeInference(), ""), "");
        Probe.due("a let without decls", Probe.schemes(new TypeInference(), "f = let {} in 'c'"), "Char");
    }

    private static final String RICH = "data T a b = A | B a [T a b] () (a, b) | C { p :: a -> b , q :: ( Int ) } deriving ( Eq , Ord ) ; "
        + "f :: ( Eq a , Num b ) => T a [ b ] -> ( ) ; g :: Ord a => a ; f A ( B x _ ) [ 1 , 'c' ] = \\ ( x : y ) C { p = z } -> x y ; "
        + "( g , [ ] ) = let { h = if x then ( ) else [ ] ; k :: a ; } in "
        + "case x : y : z of { C x y : z -> _h 1 ; _ -> A { p = x , q = _ } { p = 1 } ; } ; "
        + "[ u ] : v = ( x , ( y ) , [ z , z ] ) :: [ T a ] -> b ;";

    /** "how many there are, if it ends too early; what begins no token counts as one there". */
    private static void endsTooEarly() {
        String[] rich = RICH.replaceAll("([\\[\\](),;])", " $1 ").trim().split(" +");
        int complete = 0;
        StringBuilder ahead = new StringBuilder();
        for (int i = 0; i < rich.length; i++) {
            String got = Probe.reading(new TypeInference(), ahead.toString());
            complete += got.equals("ok") ? 1 : 0;
            Probe.due(ahead.toString(), got.equals("ok") ? "1@" + i : got, "1@" + i);
            Probe.due(ahead + "@", Probe.reading(new TypeInference(), ahead + "@"), "1@" + i);
            Probe.due(ahead + "1234567890", Probe.reading(new TypeInference(), ahead + " 1234567890 ) ;"), "1@" + i);
            ahead.append(rich[i]).append(i % 7 == 0 ? "\n" : " ");
        }
        tokens(ahead.toString(), rich.length);
        // The whole text is some thirty times a text when it has ended, behind each exp, part and type of a decl.
        Probe.due("texts among its beginnings", complete > 20 && complete < 50, true);
    }

    /** "the first token with which it is no beginning of one". */
    private static void firstWrongToken() {
        none("f ^} = @");
        none("f = (1^] @ )");
        none("f x ^:: Int");
        none("f ^: x = 1");
        none("^1 = 1");
        none("^'c' = 1");
        none("f = g ^\\x -> x");
        none("f = x : ^\\y -> y");
        none("f = x : ^let {} in y");
        none("f = x :: Int ^:: Int");
        none("f = x :: Int ^: y");
        none("f = (x :: Int) : y^)");
        none("f = if a then b ^; else c");
        none("f = case x of {y ^= 1}");
        none("f = case x of {y ^:: Int -> 1}");
        none("f = C {^}");
        none("f C {^} = 1");
        none("data T = C {^}");
        none("f = C {p ^:: Int}");
        none("data T = C {p ^= Int}");
        none("f = C {^P = 1}");
        none("C {p = x} ^y = 1");
        none("C x ^{p = x} = 1");
        good("C D {p = x} y = 1");
        good("f C {p = x} y = 1");
        none("f :: (T) ^a");
        none("f :: a ^b");
        none("f :: Eq a => Ord b ^=> a");
        none("f :: () ^=> a");
        none("f :: Eq a b ^=> a");
        none("f :: (Eq a, Ord) ^=> a");
        none("f :: (Eq (a)) ^=> a");
        none("f :: (Eq Int) ^=> a");
        none("f :: (Eq a, Eq Int) ^=> a");
        none("f :: (a ^b) => c");
        none("f :: Eq Int ^=> a");
        none("f :: a ^b => c");
        good("f :: (Eq a, Eq b, Eq c, Eq d, Eq e, Eq g, Eq h) => a");
        good("f :: (Eq a, Eq b, Eq c, Eq d, Eq e)");
        none("f :: (Eq a, Eq b, Eq c, Eq d, Eq e^, Eq g)");
        none("data T = C | ^");
        none("data ^t = C");
        none("data T = ^c");
        none("data T = C deriving ^Eq");
        none("data T = C deriving (^)");
        none("data T = C deriving (Eq,^)");
        none("data T = C deriving (Eq) ^| D");
        none("data T = C Int ^-> Int");
        none("data T ^:: Int");
        none("data T ^; f = 1");
    }

    public static void main(String[] args) {
        bytes();
        blanks();
        longTokens();
        numbers();
        signs();
        words();
        mostTokens();
        lowsOfData();
        tuples();
        levels();
        levelsElsewhere();
        withoutDecls();
        endsTooEarly();
        firstWrongToken();
        Probe.end();
    }
}
